def arr1W (cA : ClassId) (h : Nat → Nat) (M : St) : va_W := [(h 0, .inl (cA, 151, .inl (M 0)))]
def arr0W (cA : ClassId) (h : Nat → Nat) (M : St) : va_W := [(h 0, .inl (cA, 151, .inl (M 0)))]
def arr2W (cA : ClassId) (h : Nat → Nat) (M : St) : va_W := [(h 0, .inl (cA, 151, .inl (M 0))), (h 1, .inl (cA, 151, .inl (M 1)))]
def modkW (cA : ClassId) (g : Nat → Nat) (v : Nat → Int32) (h : Nat → Nat) (M : St) : va_W := [(h 0, .inr (5, [.ref (g 1), .ref (g 2), .ref (g 3), .ref (g 4), .ref (g 5), .ref (g 6), .int (v 6), .int (v 7), .ref (g 7), .ref (g 8), .int (v 10), .int (v 11), .ref (g 9), .int (v 13)])), (h 1, .inl (cA, 151, .inl (M 0)))]
def modW (cA : ClassId) (h : Nat → Nat) (M : St) : va_W := [(h 0, .inr (5, [.ref (h 1), .ref (h 2), .ref (h 3), .ref (h 4), .ref (h 5), .ref (h 6), .int (M 0 6), .int (M 0 7), .ref (h 7), .ref (h 8), .int (M 0 10), .int (M 0 11), .ref (h 9), .int (M 0 13)])), (h 1, .inl (cA, 7, .inl (M 1))), (h 2, .inl (cA, 151, .inl (M 2))), (h 3, .inl (cA, 151, .inl (M 3))), (h 4, .inl (cA, 151, .inl (M 4))), (h 5, .inl (cA, 151, .inl (M 5))), (h 6, .inl (cA, 151, .inl (M 6))), (h 7, .inl (cA, 64, .inl (M 7))), (h 8, .inl (cA, 3, .inl (M 8))), (h 9, .inl (cA, 10, .inl (M 9)))]
theorem cB_17 : (Int8.ofInt 17).toInt32 = (17 : Int32) := by decide +kernel
theorem cB_18 : (Int8.ofInt 18).toInt32 = (18 : Int32) := by decide +kernel
theorem cB_19 : (Int8.ofInt 19).toInt32 = (19 : Int32) := by decide +kernel
theorem cB_21 : (Int8.ofInt 21).toInt32 = (21 : Int32) := by decide +kernel
theorem cB_22 : (Int8.ofInt 22).toInt32 = (22 : Int32) := by decide +kernel
theorem cB_23 : (Int8.ofInt 23).toInt32 = (23 : Int32) := by decide +kernel
theorem cB_24 : (Int8.ofInt 24).toInt32 = (24 : Int32) := by decide +kernel
theorem cB_25 : (Int8.ofInt 25).toInt32 = (25 : Int32) := by decide +kernel
theorem cB_26 : (Int8.ofInt 26).toInt32 = (26 : Int32) := by decide +kernel
theorem cB_27 : (Int8.ofInt 27).toInt32 = (27 : Int32) := by decide +kernel
theorem cB_28 : (Int8.ofInt 28).toInt32 = (28 : Int32) := by decide +kernel
theorem cB_29 : (Int8.ofInt 29).toInt32 = (29 : Int32) := by decide +kernel
theorem cB_40 : (Int8.ofInt 40).toInt32 = (40 : Int32) := by decide +kernel
theorem cB_89 : (Int8.ofInt 89).toInt32 = (89 : Int32) := by decide +kernel
theorem cS_150 : (Int16.ofInt 150).toInt32 = (150 : Int32) := by decide +kernel
theorem cS_151 : (Int16.ofInt 151).toInt32 = (151 : Int32) := by decide +kernel
theorem cS_200 : (Int16.ofInt 200).toInt32 = (200 : Int32) := by decide +kernel
theorem tn_0 : (0 : Int32).toNatClampNeg = 0 := by decide +kernel
theorem tn_1 : (1 : Int32).toNatClampNeg = 1 := by decide +kernel
theorem tn_2 : (2 : Int32).toNatClampNeg = 2 := by decide +kernel
theorem tn_3 : (3 : Int32).toNatClampNeg = 3 := by decide +kernel
theorem tn_4 : (4 : Int32).toNatClampNeg = 4 := by decide +kernel
theorem tn_5 : (5 : Int32).toNatClampNeg = 5 := by decide +kernel
theorem tn_6 : (6 : Int32).toNatClampNeg = 6 := by decide +kernel
theorem tn_7 : (7 : Int32).toNatClampNeg = 7 := by decide +kernel
theorem tn_8 : (8 : Int32).toNatClampNeg = 8 := by decide +kernel
theorem tn_9 : (9 : Int32).toNatClampNeg = 9 := by decide +kernel
theorem tn_10 : (10 : Int32).toNatClampNeg = 10 := by decide +kernel
theorem tn_11 : (11 : Int32).toNatClampNeg = 11 := by decide +kernel
theorem tn_12 : (12 : Int32).toNatClampNeg = 12 := by decide +kernel
theorem tn_13 : (13 : Int32).toNatClampNeg = 13 := by decide +kernel
theorem tn_14 : (14 : Int32).toNatClampNeg = 14 := by decide +kernel
theorem tn_15 : (15 : Int32).toNatClampNeg = 15 := by decide +kernel
theorem tn_16 : (16 : Int32).toNatClampNeg = 16 := by decide +kernel
theorem tn_17 : (17 : Int32).toNatClampNeg = 17 := by decide +kernel
theorem tn_18 : (18 : Int32).toNatClampNeg = 18 := by decide +kernel
theorem tn_19 : (19 : Int32).toNatClampNeg = 19 := by decide +kernel
theorem tn_20 : (20 : Int32).toNatClampNeg = 20 := by decide +kernel
theorem tn_21 : (21 : Int32).toNatClampNeg = 21 := by decide +kernel
theorem tn_22 : (22 : Int32).toNatClampNeg = 22 := by decide +kernel
theorem tn_23 : (23 : Int32).toNatClampNeg = 23 := by decide +kernel
theorem tn_24 : (24 : Int32).toNatClampNeg = 24 := by decide +kernel
theorem tn_25 : (25 : Int32).toNatClampNeg = 25 := by decide +kernel
theorem tn_26 : (26 : Int32).toNatClampNeg = 26 := by decide +kernel
theorem tn_27 : (27 : Int32).toNatClampNeg = 27 := by decide +kernel
theorem tn_28 : (28 : Int32).toNatClampNeg = 28 := by decide +kernel
theorem tn_64 : (64 : Int32).toNatClampNeg = 64 := by decide +kernel
theorem tn_89 : (89 : Int32).toNatClampNeg = 89 := by decide +kernel
theorem tn_150 : (150 : Int32).toNatClampNeg = 150 := by decide +kernel
theorem tn_151 : (151 : Int32).toNatClampNeg = 151 := by decide +kernel
theorem inb_0_3 : vp_in (0 : Int32) 3 := by unfold vp_in; decide +kernel
theorem inb_0_151 : vp_in (0 : Int32) 151 := by unfold vp_in; decide +kernel
theorem inb_1_151 : vp_in (1 : Int32) 151 := by unfold vp_in; decide +kernel
theorem inb_2_3 : vp_in (2 : Int32) 3 := by unfold vp_in; decide +kernel
theorem inb_2_151 : vp_in (2 : Int32) 151 := by unfold vp_in; decide +kernel
theorem inb_3_151 : vp_in (3 : Int32) 151 := by unfold vp_in; decide +kernel
theorem inb_4_151 : vp_in (4 : Int32) 151 := by unfold vp_in; decide +kernel
theorem inb_5_151 : vp_in (5 : Int32) 151 := by unfold vp_in; decide +kernel
theorem inb_6_151 : vp_in (6 : Int32) 151 := by unfold vp_in; decide +kernel
theorem inb_7_151 : vp_in (7 : Int32) 151 := by unfold vp_in; decide +kernel
theorem inb_12_151 : vp_in (12 : Int32) 151 := by unfold vp_in; decide +kernel
theorem inb_13_151 : vp_in (13 : Int32) 151 := by unfold vp_in; decide +kernel
theorem inb_14_151 : vp_in (14 : Int32) 151 := by unfold vp_in; decide +kernel
theorem inb_16_151 : vp_in (16 : Int32) 151 := by unfold vp_in; decide +kernel
theorem inb_17_151 : vp_in (17 : Int32) 151 := by unfold vp_in; decide +kernel
theorem inb_19_151 : vp_in (19 : Int32) 151 := by unfold vp_in; decide +kernel
theorem inb_20_151 : vp_in (20 : Int32) 151 := by unfold vp_in; decide +kernel
theorem inb_21_151 : vp_in (21 : Int32) 151 := by unfold vp_in; decide +kernel
theorem inb_22_151 : vp_in (22 : Int32) 151 := by unfold vp_in; decide +kernel
theorem inb_23_151 : vp_in (23 : Int32) 151 := by unfold vp_in; decide +kernel
theorem inb_24_151 : vp_in (24 : Int32) 151 := by unfold vp_in; decide +kernel
theorem inb_25_151 : vp_in (25 : Int32) 151 := by unfold vp_in; decide +kernel
theorem inb_26_151 : vp_in (26 : Int32) 151 := by unfold vp_in; decide +kernel
theorem inb_27_151 : vp_in (27 : Int32) 151 := by unfold vp_in; decide +kernel
theorem inb_28_151 : vp_in (28 : Int32) 151 := by unfold vp_in; decide +kernel
theorem inb_89_151 : vp_in (89 : Int32) 151 := by unfold vp_in; decide +kernel
theorem inb_150_151 : vp_in (150 : Int32) 151 := by unfold vp_in; decide +kernel
theorem hdV_X5_airs : yX5_airs.cls = RX5 ∧ yX5_airs.cls ≠ "java/lang/invoke/MethodHandle" ∧ yX5_airs.cls ≠ "java/lang/invoke/VarHandle" ∧ (parseMethodDescriptor yX5_airs.desc).map (fun d => d.parameters.length) = some 1 := by decide +kernel
theorem hdV_X5_becomes : yX5_becomes.cls = RX5 ∧ yX5_becomes.cls ≠ "java/lang/invoke/MethodHandle" ∧ yX5_becomes.cls ≠ "java/lang/invoke/VarHandle" ∧ (parseMethodDescriptor yX5_becomes.desc).map (fun d => d.parameters.length) = some 2 := by decide +kernel
theorem hdV_X5_begins : yX5_begins.cls = RX5 ∧ yX5_begins.cls ≠ "java/lang/invoke/MethodHandle" ∧ yX5_begins.cls ≠ "java/lang/invoke/VarHandle" ∧ (parseMethodDescriptor yX5_begins.desc).map (fun d => d.parameters.length) = some 0 := by decide +kernel
theorem hdV_X5_fresh : yX5_fresh.cls = RX5 ∧ yX5_fresh.cls ≠ "java/lang/invoke/MethodHandle" ∧ yX5_fresh.cls ≠ "java/lang/invoke/VarHandle" ∧ (parseMethodDescriptor yX5_fresh.desc).map (fun d => d.parameters.length) = some 0 := by decide +kernel
theorem hdV_X5_freshBy : yX5_freshBy.cls = RX5 ∧ yX5_freshBy.cls ≠ "java/lang/invoke/MethodHandle" ∧ yX5_freshBy.cls ≠ "java/lang/invoke/VarHandle" ∧ (parseMethodDescriptor yX5_freshBy.desc).map (fun d => d.parameters.length) = some 3 := by decide +kernel
theorem hdV_X5_gaps : yX5_gaps.cls = RX5 ∧ yX5_gaps.cls ≠ "java/lang/invoke/MethodHandle" ∧ yX5_gaps.cls ≠ "java/lang/invoke/VarHandle" ∧ (parseMethodDescriptor yX5_gaps.desc).map (fun d => d.parameters.length) = some 0 := by decide +kernel
theorem hdV_X5_goesOn : yX5_goesOn.cls = RX5 ∧ yX5_goesOn.cls ≠ "java/lang/invoke/MethodHandle" ∧ yX5_goesOn.cls ≠ "java/lang/invoke/VarHandle" ∧ (parseMethodDescriptor yX5_goesOn.desc).map (fun d => d.parameters.length) = some 2 := by decide +kernel
theorem hdV_X5_isAsTold : yX5_isAsTold.cls = RX5 ∧ yX5_isAsTold.cls ≠ "java/lang/invoke/MethodHandle" ∧ yX5_isAsTold.cls ≠ "java/lang/invoke/VarHandle" ∧ (parseMethodDescriptor yX5_isAsTold.desc).map (fun d => d.parameters.length) = some 2 := by decide +kernel
theorem hdV_X5_isSort : yX5_isSort.cls = RX5 ∧ yX5_isSort.cls ≠ "java/lang/invoke/MethodHandle" ∧ yX5_isSort.cls ≠ "java/lang/invoke/VarHandle" ∧ (parseMethodDescriptor yX5_isSort.desc).map (fun d => d.parameters.length) = some 3 := by decide +kernel
theorem hdV_X5_reads : yX5_reads.cls = RX5 ∧ yX5_reads.cls ≠ "java/lang/invoke/MethodHandle" ∧ yX5_reads.cls ≠ "java/lang/invoke/VarHandle" ∧ (parseMethodDescriptor yX5_reads.desc).map (fun d => d.parameters.length) = some 0 := by decide +kernel
theorem hdV_X5_readsNumber : yX5_readsNumber.cls = RX5 ∧ yX5_readsNumber.cls ≠ "java/lang/invoke/MethodHandle" ∧ yX5_readsNumber.cls ≠ "java/lang/invoke/VarHandle" ∧ (parseMethodDescriptor yX5_readsNumber.desc).map (fun d => d.parameters.length) = some 2 := by decide +kernel
theorem hdV_X5_readsStatement : yX5_readsStatement.cls = RX5 ∧ yX5_readsStatement.cls ≠ "java/lang/invoke/MethodHandle" ∧ yX5_readsStatement.cls ≠ "java/lang/invoke/VarHandle" ∧ (parseMethodDescriptor yX5_readsStatement.desc).map (fun d => d.parameters.length) = some 0 := by decide +kernel
theorem hdV_X5_refuse : yX5_refuse.cls = RX5 ∧ yX5_refuse.cls ≠ "java/lang/invoke/MethodHandle" ∧ yX5_refuse.cls ≠ "java/lang/invoke/VarHandle" ∧ (parseMethodDescriptor yX5_refuse.desc).map (fun d => d.parameters.length) = some 1 := by decide +kernel
theorem hdV_X5_sign : yX5_sign.cls = RX5 ∧ yX5_sign.cls ≠ "java/lang/invoke/MethodHandle" ∧ yX5_sign.cls ≠ "java/lang/invoke/VarHandle" ∧ (parseMethodDescriptor yX5_sign.desc).map (fun d => d.parameters.length) = some 0 := by decide +kernel
theorem hdV_X5_sortsOf : yX5_sortsOf.cls = RX5 ∧ yX5_sortsOf.cls ≠ "java/lang/invoke/MethodHandle" ∧ yX5_sortsOf.cls ≠ "java/lang/invoke/VarHandle" ∧ (parseMethodDescriptor yX5_sortsOf.desc).map (fun d => d.parameters.length) = some 2 := by decide +kernel
theorem hdV_X5_takes : yX5_takes.cls = RX5 ∧ yX5_takes.cls ≠ "java/lang/invoke/MethodHandle" ∧ yX5_takes.cls ≠ "java/lang/invoke/VarHandle" ∧ (parseMethodDescriptor yX5_takes.desc).map (fun d => d.parameters.length) = some 1 := by decide +kernel
theorem hdV_X5_tenth : yX5_tenth.cls = RX5 ∧ yX5_tenth.cls ≠ "java/lang/invoke/MethodHandle" ∧ yX5_tenth.cls ≠ "java/lang/invoke/VarHandle" ∧ (parseMethodDescriptor yX5_tenth.desc).map (fun d => d.parameters.length) = some 1 := by decide +kernel
theorem hdV_X5_wrongRun : yX5_wrongRun.cls = RX5 ∧ yX5_wrongRun.cls ≠ "java/lang/invoke/MethodHandle" ∧ yX5_wrongRun.cls ≠ "java/lang/invoke/VarHandle" ∧ (parseMethodDescriptor yX5_wrongRun.desc).map (fun d => d.parameters.length) = some 1 := by decide +kernel
theorem hdS_X5_airOf : yX5_airOf.cls ≠ "java/lang/invoke/MethodHandle" ∧ yX5_airOf.cls ≠ "java/lang/invoke/VarHandle" ∧ (parseMethodDescriptor yX5_airOf.desc).map (fun d => d.parameters.length) = some 2 := by decide +kernel
theorem hdS_X5_amount : yX5_amount.cls ≠ "java/lang/invoke/MethodHandle" ∧ yX5_amount.cls ≠ "java/lang/invoke/VarHandle" ∧ (parseMethodDescriptor yX5_amount.desc).map (fun d => d.parameters.length) = some 1 := by decide +kernel
theorem hdS_X5_common : yX5_common.cls ≠ "java/lang/invoke/MethodHandle" ∧ yX5_common.cls ≠ "java/lang/invoke/VarHandle" ∧ (parseMethodDescriptor yX5_common.desc).map (fun d => d.parameters.length) = some 2 := by decide +kernel
theorem hdS_X5_copies : yX5_copies.cls ≠ "java/lang/invoke/MethodHandle" ∧ yX5_copies.cls ≠ "java/lang/invoke/VarHandle" ∧ (parseMethodDescriptor yX5_copies.desc).map (fun d => d.parameters.length) = some 2 := by decide +kernel
theorem hdS_X5_empties : yX5_empties.cls ≠ "java/lang/invoke/MethodHandle" ∧ yX5_empties.cls ≠ "java/lang/invoke/VarHandle" ∧ (parseMethodDescriptor yX5_empties.desc).map (fun d => d.parameters.length) = some 1 := by decide +kernel
theorem hdS_X5_freshens : yX5_freshens.cls ≠ "java/lang/invoke/MethodHandle" ∧ yX5_freshens.cls ≠ "java/lang/invoke/VarHandle" ∧ (parseMethodDescriptor yX5_freshens.desc).map (fun d => d.parameters.length) = some 2 := by decide +kernel
theorem hdS_X5_fullOf : yX5_fullOf.cls ≠ "java/lang/invoke/MethodHandle" ∧ yX5_fullOf.cls ≠ "java/lang/invoke/VarHandle" ∧ (parseMethodDescriptor yX5_fullOf.desc).map (fun d => d.parameters.length) = some 1 := by decide +kernel
theorem hdS_X5_gapOf : yX5_gapOf.cls ≠ "java/lang/invoke/MethodHandle" ∧ yX5_gapOf.cls ≠ "java/lang/invoke/VarHandle" ∧ (parseMethodDescriptor yX5_gapOf.desc).map (fun d => d.parameters.length) = some 2 := by decide +kernel
theorem hdS_X5_goesTo : yX5_goesTo.cls ≠ "java/lang/invoke/MethodHandle" ∧ yX5_goesTo.cls ≠ "java/lang/invoke/VarHandle" ∧ (parseMethodDescriptor yX5_goesTo.desc).map (fun d => d.parameters.length) = some 2 := by decide +kernel
theorem hdS_X5_isIn : yX5_isIn.cls ≠ "java/lang/invoke/MethodHandle" ∧ yX5_isIn.cls ≠ "java/lang/invoke/VarHandle" ∧ (parseMethodDescriptor yX5_isIn.desc).map (fun d => d.parameters.length) = some 2 := by decide +kernel
theorem hdS_X5_leastOf : yX5_leastOf.cls ≠ "java/lang/invoke/MethodHandle" ∧ yX5_leastOf.cls ≠ "java/lang/invoke/VarHandle" ∧ (parseMethodDescriptor yX5_leastOf.desc).map (fun d => d.parameters.length) = some 1 := by decide +kernel
theorem hdS_X5_lesser : yX5_lesser.cls ≠ "java/lang/invoke/MethodHandle" ∧ yX5_lesser.cls ≠ "java/lang/invoke/VarHandle" ∧ (parseMethodDescriptor yX5_lesser.desc).map (fun d => d.parameters.length) = some 2 := by decide +kernel
theorem hdS_X5_mostOf : yX5_mostOf.cls ≠ "java/lang/invoke/MethodHandle" ∧ yX5_mostOf.cls ≠ "java/lang/invoke/VarHandle" ∧ (parseMethodDescriptor yX5_mostOf.desc).map (fun d => d.parameters.length) = some 1 := by decide +kernel
theorem hdS_X5_nods : yX5_nods.cls ≠ "java/lang/invoke/MethodHandle" ∧ yX5_nods.cls ≠ "java/lang/invoke/VarHandle" ∧ (parseMethodDescriptor yX5_nods.desc).map (fun d => d.parameters.length) = some 1 := by decide +kernel
theorem hdS_X5_rises : yX5_rises.cls ≠ "java/lang/invoke/MethodHandle" ∧ yX5_rises.cls ≠ "java/lang/invoke/VarHandle" ∧ (parseMethodDescriptor yX5_rises.desc).map (fun d => d.parameters.length) = some 1 := by decide +kernel
theorem hdS_X5_thingOf : yX5_thingOf.cls ≠ "java/lang/invoke/MethodHandle" ∧ yX5_thingOf.cls ≠ "java/lang/invoke/VarHandle" ∧ (parseMethodDescriptor yX5_thingOf.desc).map (fun d => d.parameters.length) = some 1 := by decide +kernel
theorem hdS_X5_within : yX5_within.cls ≠ "java/lang/invoke/MethodHandle" ∧ yX5_within.cls ≠ "java/lang/invoke/VarHandle" ∧ (parseMethodDescriptor yX5_within.desc).map (fun d => d.parameters.length) = some 3 := by decide +kernel
theorem hdS_X5_wrongSorts : yX5_wrongSorts.cls ≠ "java/lang/invoke/MethodHandle" ∧ yX5_wrongSorts.cls ≠ "java/lang/invoke/VarHandle" ∧ (parseMethodDescriptor yX5_wrongSorts.desc).map (fun d => d.parameters.length) = some 2 := by decide +kernel
/-! the reference's worlds: what holds of a row of 151 ints, and of the object -/
def rz (f : Nat → Int32) : Prop := (0 ≤ (f 89).toInt ∧ (f 89).toInt ≤ 60) ∧ (0 ≤ (f 150).toInt ∧ (f 150).toInt ≤ 20) ∧ (1 ≤ (f 6).toInt ∧ (f 6).toInt ≤ 4)
def tp (v : Nat → Int32) : Prop := (0 ≤ (v 10).toInt ∧ (v 10).toInt ≤ 64) ∧ (0 ≤ (v 11).toInt ∧ (v 11).toInt ≤ 64) ∧ (0 ≤ (v 13).toInt ∧ (v 13).toInt ≤ 10)
def Zarr1 (M : St) : Prop := rz (M 0)
def Zarr0 (M : St) : Prop := True
def Zarr2 (M : St) : Prop := True
def Zmodk (M : St) : Prop := rz (M 0)
def Zmod (M : St) : Prop := rz (M 2) ∧ (M 0 6 = 0 ∨ rz (M 3)) ∧ tp (M 0)
theorem i_le {a b : Int32} : ¬ a ≤ b ↔ b.toInt < a.toInt := by
  rw [Int32.le_iff_toInt_le]
  omega
theorem i_lt {a b : Int32} : ¬ a < b ↔ b.toInt ≤ a.toInt := by
  rw [Int32.lt_iff_toInt_lt]
  omega
theorem i_add {a b : Int32} (h1 : -2147483648 ≤ a.toInt + b.toInt) (h2 : a.toInt + b.toInt < 2147483648) : (a + b).toInt = a.toInt + b.toInt := by
  rw [Int32.toInt_add, Int.bmod_eq_of_le] <;> omega
theorem i_sub {a b : Int32} (h1 : -2147483648 ≤ a.toInt - b.toInt) (h2 : a.toInt - b.toInt < 2147483648) : (a - b).toInt = a.toInt - b.toInt := by
  rw [Int32.toInt_sub, Int.bmod_eq_of_le] <;> omega
theorem i_mul {a b : Int32} (h1 : -2147483648 ≤ a.toInt * b.toInt) (h2 : a.toInt * b.toInt < 2147483648) : (a * b).toInt = a.toInt * b.toInt := by
  rw [Int32.toInt_mul, Int.bmod_eq_of_le] <;> omega
theorem fi_in {v : Int32} (hi : 0 ≤ v.toInt) (c : ¬ (151 : Int32) ≤ v) : vp_in v 151 := by
  have c2 := i_le.mp c
  rw [show (151 : Int32).toInt = 151 from rfl] at c2
  rw [vp_in_iff]
  omega
theorem fi_inE {v : Int32} (hi : 16 ≤ v.toInt) (c : ¬ (28 : Int32) < v) : vp_in v 151 := by
  have c2 := i_lt.mp c
  rw [show (28 : Int32).toInt = 28 from rfl] at c2
  rw [vp_in_iff]
  omega
theorem ge_step {lo : Int} {i n : Int32} (hi : lo ≤ i.toInt) (c : ¬ n ≤ i) : lo ≤ (i + 1).toInt := by
  have c2 := i_le.mp c
  have a := Int32.toInt_lt n
  have b := Int32.le_toInt i
  rw [i_add] <;> rw [show (1 : Int32).toInt = 1 from rfl] <;> omega
theorem ge_stepE {lo : Int} {i : Int32} (hi : lo ≤ i.toInt) (c : ¬ (28 : Int32) < i) : lo ≤ (i + 1).toInt := by
  have c2 := i_lt.mp c
  rw [show (28 : Int32).toInt = 28 from rfl] at c2
  have b := Int32.le_toInt i
  rw [i_add] <;> rw [show (1 : Int32).toInt = 1 from rfl] <;> omega
theorem ao_t {f : Nat → Int32} {v x : Int32} (hz : rz f) (hi : 0 ≤ v.toInt) (c : ¬ f 150 ≤ v) (e : x = 90 + 3 * v) : x.toInt = 90 + 3 * v.toInt ∧ v.toInt < 20 := by
  obtain ⟨-, ⟨a, b⟩, -⟩ := hz
  have c2 := i_le.mp c
  have e3 : (3 * v).toInt = 3 * v.toInt := by
    rw [i_mul] <;> rw [show (3 : Int32).toInt = 3 from rfl] <;> omega
  subst e
  constructor
  · rw [i_add] <;> rw [e3, show (90 : Int32).toInt = 90 from rfl] <;> omega
  · omega
theorem ao_in0 {M : St} {v x : Int32} (hz : Zarr1 M) (hi : 0 ≤ v.toInt) (c : ¬ M 0 150 ≤ v) (e : x = 90 + 3 * v) : vp_in x 151 := by
  have t := ao_t hz hi c e
  rw [vp_in_iff]
  omega
theorem ao_in1 {M : St} {v x : Int32} (hz : Zarr1 M) (hi : 0 ≤ v.toInt) (c : ¬ M 0 150 ≤ v) (e : x = 90 + 3 * v) : vp_in (x + 1) 151 := by
  have t := ao_t hz hi c e
  rw [vp_in_iff, i_add] <;> rw [show (1 : Int32).toInt = 1 from rfl] <;> omega
theorem ao_in2 {M : St} {v x : Int32} (hz : Zarr1 M) (hi : 0 ≤ v.toInt) (c : ¬ M 0 150 ≤ v) (e : x = 90 + 3 * v) : vp_in (x + 2) 151 := by
  have t := ao_t hz hi c e
  rw [vp_in_iff, i_add] <;> rw [show (2 : Int32).toInt = 2 from rfl] <;> omega
theorem ga_in0 {p : Int32} (hp : 0 ≤ p.toInt ∧ p.toInt ≤ 60) : vp_in (29 + p) 151 := by
  rw [vp_in_iff, i_add] <;> rw [show (29 : Int32).toInt = 29 from rfl] <;> omega
theorem ga_in1 {p : Int32} (hp : 0 ≤ p.toInt ∧ p.toInt ≤ 60) : vp_in (29 + p + 1) 151 := by
  have e : (29 + p).toInt = 29 + p.toInt := by
    rw [i_add] <;> rw [show (29 : Int32).toInt = 29 from rfl] <;> omega
  rw [vp_in_iff, i_add] <;> rw [e, show (1 : Int32).toInt = 1 from rfl] <;> omega
theorem nd_t {f : Nat → Int32} (hz : rz f) (c : ¬ (60 : Int32) ≤ f 89) : (29 + f 89).toInt = 29 + (f 89).toInt ∧ (f 89).toInt < 60 := by
  obtain ⟨⟨a, b⟩, -, -⟩ := hz
  have c2 := i_le.mp c
  rw [show (60 : Int32).toInt = 60 from rfl] at c2
  refine ⟨?_, c2⟩
  rw [i_add] <;> rw [show (29 : Int32).toInt = 29 from rfl] <;> omega
theorem nd_in {M : St} (hz : Zarr1 M) (c : ¬ (60 : Int32) ≤ M 0 89) : vp_in (29 + M 0 89) 151 := by
  have t := nd_t hz c
  have h : 0 ≤ (M 0 89).toInt := hz.1.1
  rw [vp_in_iff]
  omega
theorem up_ne {f : Nat → Int32} {i b : Nat} {x : Int32} (h : b ≠ i) : up f i x b = f b := by
  unfold up
  cases hh : Nat.beq b i with
  | false => rfl
  | true => exact absurd (Nat.eq_of_beq_eq_true hh) h
theorem up_eq {f : Nat → Int32} {i : Nat} {x : Int32} : up f i x i = x := by
  unfold up
  rw [show Nat.beq i i = true from Nat.beq_refl i]
  rfl
theorem rz_up {f : Nat → Int32} {j : Nat} {x : Int32} (h : rz f) (h1 : j ≠ 89) (h2 : j ≠ 150) (h3 : j = 6 → 1 ≤ x.toInt ∧ x.toInt ≤ 4) : rz (up f j x) := by
  unfold rz
  rw [up_ne (Ne.symm h1), up_ne (Ne.symm h2)]
  refine ⟨h.1, h.2.1, ?_⟩
  by_cases hj : j = 6
  · subst hj
    rw [up_eq]
    exact h3 rfl
  · rw [up_ne (Ne.symm hj)]
    exact h.2.2
theorem sa_eq (M : St) (c : Nat) (f : Nat → Int32) : sa M c f c = f := by
  unfold sa
  rw [show Nat.beq c c = true from Nat.beq_refl c]
  rfl
theorem nd1 {M N : St} {y : Int32} (hz : Zarr1 M) (c : ¬ (60 : Int32) ≤ M 0 89) (e : N = sa M 0 (up (M 0) ((29 + M 0 89).toNatClampNeg) y)) : Zarr1 N ∧ N 0 89 = M 0 89 := by
  have t := nd_t hz c
  have h : 0 ≤ (M 0 89).toInt := hz.1.1
  have h2 : (29 + M 0 89).toNatClampNeg = 29 + (M 0 89).toInt.toNat := by
    rw [tnc, t.1]
    omega
  subst e
  unfold Zarr1
  rw [sa_eq, h2]
  exact ⟨rz_up hz (by omega) (by omega) (by omega), up_ne (by omega)⟩
theorem nd2 {M N K : St} (hz : Zarr1 N) (hd : N 0 89 = M 0 89) (c : ¬ (60 : Int32) ≤ M 0 89) (e : K = sa N 0 (up (N 0) 89 (N 0 89 + 1))) : Zarr1 K := by
  rw [← hd] at c
  have t := nd_t hz c
  obtain ⟨⟨a, b⟩, q, r⟩ := hz
  subst e
  unfold Zarr1 rz
  rw [sa_eq, up_eq, up_ne (by decide), up_ne (by decide), i_add] <;> (try rw [show (1 : Int32).toInt = 1 from rfl]) <;> omega
theorem sz_nz {f : Nat → Int32} (h : rz f) : ¬ 3 * f 6 = 0 := by
  obtain ⟨-, -, a, b⟩ := h
  intro q
  have e : (3 * f 6).toInt = 3 * (f 6).toInt := by
    rw [i_mul] <;> rw [show (3 : Int32).toInt = 3 from rfl] <;> omega
  rw [q, show (0 : Int32).toInt = 0 from rfl] at e
  omega
theorem sg_in {M : St} (hz : Zmod M) (c : M 0 11 < M 0 10) : vp_in (M 0 11) 64 := by
  obtain ⟨-, -, ⟨a, b⟩, ⟨d, e⟩, -⟩ := hz
  have c2 := Int32.lt_iff_toInt_lt.mp c
  rw [vp_in_iff]
  omega
theorem at_z {M N : St} (hz : Zmod M) (h : M 0 11 < M 0 10) (e : N = sa M 0 (up (M 0) 11 (M 0 11 + 1))) : Zmod N := by
  obtain ⟨z1, z2, ⟨a, b⟩, ⟨d, f⟩, z3⟩ := hz
  have c2 := Int32.lt_iff_toInt_lt.mp h
  subst e
  refine ⟨z1, z2, ⟨a, b⟩, ?_, z3⟩
  show 0 ≤ (M 0 11 + 1).toInt ∧ (M 0 11 + 1).toInt ≤ 64
  rw [i_add] <;> rw [show (1 : Int32).toInt = 1 from rfl] <;> omega
theorem hp_1_3 : vp_in (1 : Int32) 3 := by unfold vp_in; decide +kernel
theorem hp_2_3 : vp_in (2 : Int32) 3 := by unfold vp_in; decide +kernel
theorem ne_58 : ¬ (58 : Int32) = -1 := by decide
theorem ne_59 : ¬ (59 : Int32) = -1 := by decide
theorem rf_m1 : vp_in (-(-1) : Int32) 7 := by unfold vp_in; decide +kernel
theorem rf_m2 : vp_in (-(-2) : Int32) 7 := by unfold vp_in; decide +kernel
theorem rf_m3 : vp_in (-(-3) : Int32) 7 := by unfold vp_in; decide +kernel
theorem rf_m4 : vp_in (-(-4) : Int32) 7 := by unfold vp_in; decide +kernel
theorem rf_m6 : vp_in (-(-6) : Int32) 7 := by unfold vp_in; decide +kernel
def RF0 (x : Int32) : Prop := x = 0 ∨ x = -1 ∨ x = -2 ∨ x = -3 ∨ x = -4 ∨ x = -6
def RF (x : Int32) : Prop := x = -1 ∨ x = -2 ∨ x = -3 ∨ x = -4 ∨ x = -6
theorem rf0_c {x : Int32} (h : x = 0 ∨ x = -1 ∨ x = -2 ∨ x = -3 ∨ x = -4 ∨ x = -6) : RF0 x := h
theorem rf_of {x : Int32} (h : RF0 x) (c : ¬ x = 0) : RF x := h.resolve_left c
theorem rf_vp {x : Int32} (h : RF x) : vp_in (-x) 7 := by
  rcases h with rfl | rfl | rfl | rfl | rfl
  · exact rf_m1
  · exact rf_m2
  · exact rf_m3
  · exact rf_m4
  · exact rf_m6
set_option maxRecDepth 100000 in
set_option maxHeartbeats 4000000 in
theorem v_modk_arr1_1 (cA : ClassId) (g : Nat → Nat) (v : Nat → Int32) (h : Nat → Nat) (M : St) : View (modkW cA g v h M) (arr1W cA (sh 1 h) (sh 0 M)) (arr1W cA (sh 1 h)) (fun u => modkW cA g v h (put 0 1 u M)) := ⟨[(h 0, .inr (5, [.ref (g 1), .ref (g 2), .ref (g 3), .ref (g 4), .ref (g 5), .ref (g 6), .int (v 6), .int (v 7), .ref (g 7), .ref (g 8), .int (v 10), .int (v 11), .ref (g 9), .int (v 13)]))], [1], [0], [0, 1], rfl, rfl, rfl, rfl, by decide, rfl, rfl, fun u => rfl⟩
set_option maxRecDepth 100000 in
set_option maxHeartbeats 4000000 in
theorem v_mod_arr2_2_4 (cA : ClassId) (h : Nat → Nat) (M : St) : View (modW cA h M) (arr2W cA (sh2 2 1 4 h) (sh2 2 1 4 M)) (arr2W cA (sh2 2 1 4 h)) (fun u => modW cA h (put2 2 1 4 1 u M)) := ⟨[(h 0, .inr (5, [.ref (h 1), .ref (h 2), .ref (h 3), .ref (h 4), .ref (h 5), .ref (h 6), .int (M 0 6), .int (M 0 7), .ref (h 7), .ref (h 8), .int (M 0 10), .int (M 0 11), .ref (h 9), .int (M 0 13)])), (h 1, .inl (cA, 7, .inl (M 1))), (h 3, .inl (cA, 151, .inl (M 3))), (h 5, .inl (cA, 151, .inl (M 5))), (h 6, .inl (cA, 151, .inl (M 6))), (h 7, .inl (cA, 64, .inl (M 7))), (h 8, .inl (cA, 3, .inl (M 8))), (h 9, .inl (cA, 10, .inl (M 9)))], [2, 4], [0, 1, 3, 5, 6, 7, 8, 9], [0, 1, 8, 2, 9, 3, 4, 5, 6, 7], rfl, rfl, rfl, rfl, by decide, rfl, rfl, fun u => rfl⟩
set_option maxRecDepth 100000 in
set_option maxHeartbeats 4000000 in
theorem v_mod_modk_0_2 (cA : ClassId) (h : Nat → Nat) (M : St) : View (modW cA h M) (modkW cA h (M 0) (sh2 0 1 2 h) (sh 2 M)) (modkW cA h (M 0) (sh2 0 1 2 h)) (fun u => modW cA h (put 2 1 u M)) := ⟨[(h 1, .inl (cA, 7, .inl (M 1))), (h 3, .inl (cA, 151, .inl (M 3))), (h 4, .inl (cA, 151, .inl (M 4))), (h 5, .inl (cA, 151, .inl (M 5))), (h 6, .inl (cA, 151, .inl (M 6))), (h 7, .inl (cA, 64, .inl (M 7))), (h 8, .inl (cA, 3, .inl (M 8))), (h 9, .inl (cA, 10, .inl (M 9)))], [0, 2], [1, 3, 4, 5, 6, 7, 8, 9], [8, 0, 9, 1, 2, 3, 4, 5, 6, 7], rfl, rfl, rfl, rfl, by decide, rfl, rfl, fun u => rfl⟩
set_option maxRecDepth 100000 in
set_option maxHeartbeats 4000000 in
theorem v_mod_arr1_2 (cA : ClassId) (h : Nat → Nat) (M : St) : View (modW cA h M) (arr1W cA (sh 2 h) (sh 2 M)) (arr1W cA (sh 2 h)) (fun u => modW cA h (put 2 1 u M)) := ⟨[(h 0, .inr (5, [.ref (h 1), .ref (h 2), .ref (h 3), .ref (h 4), .ref (h 5), .ref (h 6), .int (M 0 6), .int (M 0 7), .ref (h 7), .ref (h 8), .int (M 0 10), .int (M 0 11), .ref (h 9), .int (M 0 13)])), (h 1, .inl (cA, 7, .inl (M 1))), (h 3, .inl (cA, 151, .inl (M 3))), (h 4, .inl (cA, 151, .inl (M 4))), (h 5, .inl (cA, 151, .inl (M 5))), (h 6, .inl (cA, 151, .inl (M 6))), (h 7, .inl (cA, 64, .inl (M 7))), (h 8, .inl (cA, 3, .inl (M 8))), (h 9, .inl (cA, 10, .inl (M 9)))], [2], [0, 1, 3, 4, 5, 6, 7, 8, 9], [0, 1, 9, 2, 3, 4, 5, 6, 7, 8], rfl, rfl, rfl, rfl, by decide, rfl, rfl, fun u => rfl⟩
set_option maxRecDepth 100000 in
set_option maxHeartbeats 4000000 in
theorem v_mod_modk_0_4 (cA : ClassId) (h : Nat → Nat) (M : St) : View (modW cA h M) (modkW cA h (M 0) (sh2 0 1 4 h) (sh 4 M)) (modkW cA h (M 0) (sh2 0 1 4 h)) (fun u => modW cA h (put 4 1 u M)) := ⟨[(h 1, .inl (cA, 7, .inl (M 1))), (h 2, .inl (cA, 151, .inl (M 2))), (h 3, .inl (cA, 151, .inl (M 3))), (h 5, .inl (cA, 151, .inl (M 5))), (h 6, .inl (cA, 151, .inl (M 6))), (h 7, .inl (cA, 64, .inl (M 7))), (h 8, .inl (cA, 3, .inl (M 8))), (h 9, .inl (cA, 10, .inl (M 9)))], [0, 4], [1, 2, 3, 5, 6, 7, 8, 9], [8, 0, 1, 2, 9, 3, 4, 5, 6, 7], rfl, rfl, rfl, rfl, by decide, rfl, rfl, fun u => rfl⟩
set_option maxRecDepth 100000 in
set_option maxHeartbeats 4000000 in
theorem v_mod_arr2_4_5 (cA : ClassId) (h : Nat → Nat) (M : St) : View (modW cA h M) (arr2W cA (sh2 4 1 5 h) (sh2 4 1 5 M)) (arr2W cA (sh2 4 1 5 h)) (fun u => modW cA h (put2 4 1 5 1 u M)) := ⟨[(h 0, .inr (5, [.ref (h 1), .ref (h 2), .ref (h 3), .ref (h 4), .ref (h 5), .ref (h 6), .int (M 0 6), .int (M 0 7), .ref (h 7), .ref (h 8), .int (M 0 10), .int (M 0 11), .ref (h 9), .int (M 0 13)])), (h 1, .inl (cA, 7, .inl (M 1))), (h 2, .inl (cA, 151, .inl (M 2))), (h 3, .inl (cA, 151, .inl (M 3))), (h 6, .inl (cA, 151, .inl (M 6))), (h 7, .inl (cA, 64, .inl (M 7))), (h 8, .inl (cA, 3, .inl (M 8))), (h 9, .inl (cA, 10, .inl (M 9)))], [4, 5], [0, 1, 2, 3, 6, 7, 8, 9], [0, 1, 2, 3, 8, 9, 4, 5, 6, 7], rfl, rfl, rfl, rfl, by decide, rfl, rfl, fun u => rfl⟩
set_option maxRecDepth 100000 in
set_option maxHeartbeats 4000000 in
theorem v_mod_modk_0_5 (cA : ClassId) (h : Nat → Nat) (M : St) : View (modW cA h M) (modkW cA h (M 0) (sh2 0 1 5 h) (sh 5 M)) (modkW cA h (M 0) (sh2 0 1 5 h)) (fun u => modW cA h (put 5 1 u M)) := ⟨[(h 1, .inl (cA, 7, .inl (M 1))), (h 2, .inl (cA, 151, .inl (M 2))), (h 3, .inl (cA, 151, .inl (M 3))), (h 4, .inl (cA, 151, .inl (M 4))), (h 6, .inl (cA, 151, .inl (M 6))), (h 7, .inl (cA, 64, .inl (M 7))), (h 8, .inl (cA, 3, .inl (M 8))), (h 9, .inl (cA, 10, .inl (M 9)))], [0, 5], [1, 2, 3, 4, 6, 7, 8, 9], [8, 0, 1, 2, 3, 9, 4, 5, 6, 7], rfl, rfl, rfl, rfl, by decide, rfl, rfl, fun u => rfl⟩
set_option maxRecDepth 100000 in
set_option maxHeartbeats 4000000 in
theorem v_mod_arr0_2 (cA : ClassId) (h : Nat → Nat) (M : St) : View (modW cA h M) (arr0W cA (sh 2 h) (sh 2 M)) (arr0W cA (sh 2 h)) (fun u => modW cA h (put 2 1 u M)) := ⟨[(h 0, .inr (5, [.ref (h 1), .ref (h 2), .ref (h 3), .ref (h 4), .ref (h 5), .ref (h 6), .int (M 0 6), .int (M 0 7), .ref (h 7), .ref (h 8), .int (M 0 10), .int (M 0 11), .ref (h 9), .int (M 0 13)])), (h 1, .inl (cA, 7, .inl (M 1))), (h 3, .inl (cA, 151, .inl (M 3))), (h 4, .inl (cA, 151, .inl (M 4))), (h 5, .inl (cA, 151, .inl (M 5))), (h 6, .inl (cA, 151, .inl (M 6))), (h 7, .inl (cA, 64, .inl (M 7))), (h 8, .inl (cA, 3, .inl (M 8))), (h 9, .inl (cA, 10, .inl (M 9)))], [2], [0, 1, 3, 4, 5, 6, 7, 8, 9], [0, 1, 9, 2, 3, 4, 5, 6, 7, 8], rfl, rfl, rfl, rfl, by decide, rfl, rfl, fun u => rfl⟩
set_option maxRecDepth 100000 in
set_option maxHeartbeats 4000000 in
theorem v_mod_arr0_4 (cA : ClassId) (h : Nat → Nat) (M : St) : View (modW cA h M) (arr0W cA (sh 4 h) (sh 4 M)) (arr0W cA (sh 4 h)) (fun u => modW cA h (put 4 1 u M)) := ⟨[(h 0, .inr (5, [.ref (h 1), .ref (h 2), .ref (h 3), .ref (h 4), .ref (h 5), .ref (h 6), .int (M 0 6), .int (M 0 7), .ref (h 7), .ref (h 8), .int (M 0 10), .int (M 0 11), .ref (h 9), .int (M 0 13)])), (h 1, .inl (cA, 7, .inl (M 1))), (h 2, .inl (cA, 151, .inl (M 2))), (h 3, .inl (cA, 151, .inl (M 3))), (h 5, .inl (cA, 151, .inl (M 5))), (h 6, .inl (cA, 151, .inl (M 6))), (h 7, .inl (cA, 64, .inl (M 7))), (h 8, .inl (cA, 3, .inl (M 8))), (h 9, .inl (cA, 10, .inl (M 9)))], [4], [0, 1, 2, 3, 5, 6, 7, 8, 9], [0, 1, 2, 3, 9, 4, 5, 6, 7, 8], rfl, rfl, rfl, rfl, by decide, rfl, rfl, fun u => rfl⟩
set_option maxRecDepth 100000 in
set_option maxHeartbeats 4000000 in
theorem v_mod_arr2_2_3 (cA : ClassId) (h : Nat → Nat) (M : St) : View (modW cA h M) (arr2W cA (sh2 2 1 3 h) (sh2 2 1 3 M)) (arr2W cA (sh2 2 1 3 h)) (fun u => modW cA h (put2 2 1 3 1 u M)) := ⟨[(h 0, .inr (5, [.ref (h 1), .ref (h 2), .ref (h 3), .ref (h 4), .ref (h 5), .ref (h 6), .int (M 0 6), .int (M 0 7), .ref (h 7), .ref (h 8), .int (M 0 10), .int (M 0 11), .ref (h 9), .int (M 0 13)])), (h 1, .inl (cA, 7, .inl (M 1))), (h 4, .inl (cA, 151, .inl (M 4))), (h 5, .inl (cA, 151, .inl (M 5))), (h 6, .inl (cA, 151, .inl (M 6))), (h 7, .inl (cA, 64, .inl (M 7))), (h 8, .inl (cA, 3, .inl (M 8))), (h 9, .inl (cA, 10, .inl (M 9)))], [2, 3], [0, 1, 4, 5, 6, 7, 8, 9], [0, 1, 8, 9, 2, 3, 4, 5, 6, 7], rfl, rfl, rfl, rfl, by decide, rfl, rfl, fun u => rfl⟩
set_option maxRecDepth 100000 in
set_option maxHeartbeats 4000000 in
theorem v_mod_arr2_3_2 (cA : ClassId) (h : Nat → Nat) (M : St) : View (modW cA h M) (arr2W cA (sh2 3 1 2 h) (sh2 3 1 2 M)) (arr2W cA (sh2 3 1 2 h)) (fun u => modW cA h (put2 3 1 2 1 u M)) := ⟨[(h 0, .inr (5, [.ref (h 1), .ref (h 2), .ref (h 3), .ref (h 4), .ref (h 5), .ref (h 6), .int (M 0 6), .int (M 0 7), .ref (h 7), .ref (h 8), .int (M 0 10), .int (M 0 11), .ref (h 9), .int (M 0 13)])), (h 1, .inl (cA, 7, .inl (M 1))), (h 4, .inl (cA, 151, .inl (M 4))), (h 5, .inl (cA, 151, .inl (M 5))), (h 6, .inl (cA, 151, .inl (M 6))), (h 7, .inl (cA, 64, .inl (M 7))), (h 8, .inl (cA, 3, .inl (M 8))), (h 9, .inl (cA, 10, .inl (M 9)))], [3, 2], [0, 1, 4, 5, 6, 7, 8, 9], [0, 1, 9, 8, 2, 3, 4, 5, 6, 7], rfl, rfl, rfl, rfl, by decide, rfl, rfl, fun u => rfl⟩
set_option maxRecDepth 100000 in
set_option maxHeartbeats 4000000 in
theorem v_mod_arr2_2_6 (cA : ClassId) (h : Nat → Nat) (M : St) : View (modW cA h M) (arr2W cA (sh2 2 1 6 h) (sh2 2 1 6 M)) (arr2W cA (sh2 2 1 6 h)) (fun u => modW cA h (put2 2 1 6 1 u M)) := ⟨[(h 0, .inr (5, [.ref (h 1), .ref (h 2), .ref (h 3), .ref (h 4), .ref (h 5), .ref (h 6), .int (M 0 6), .int (M 0 7), .ref (h 7), .ref (h 8), .int (M 0 10), .int (M 0 11), .ref (h 9), .int (M 0 13)])), (h 1, .inl (cA, 7, .inl (M 1))), (h 3, .inl (cA, 151, .inl (M 3))), (h 4, .inl (cA, 151, .inl (M 4))), (h 5, .inl (cA, 151, .inl (M 5))), (h 7, .inl (cA, 64, .inl (M 7))), (h 8, .inl (cA, 3, .inl (M 8))), (h 9, .inl (cA, 10, .inl (M 9)))], [2, 6], [0, 1, 3, 4, 5, 7, 8, 9], [0, 1, 8, 2, 3, 4, 9, 5, 6, 7], rfl, rfl, rfl, rfl, by decide, rfl, rfl, fun u => rfl⟩
set_option maxRecDepth 100000 in
set_option maxHeartbeats 4000000 in
theorem v_mod_arr2_6_2 (cA : ClassId) (h : Nat → Nat) (M : St) : View (modW cA h M) (arr2W cA (sh2 6 1 2 h) (sh2 6 1 2 M)) (arr2W cA (sh2 6 1 2 h)) (fun u => modW cA h (put2 6 1 2 1 u M)) := ⟨[(h 0, .inr (5, [.ref (h 1), .ref (h 2), .ref (h 3), .ref (h 4), .ref (h 5), .ref (h 6), .int (M 0 6), .int (M 0 7), .ref (h 7), .ref (h 8), .int (M 0 10), .int (M 0 11), .ref (h 9), .int (M 0 13)])), (h 1, .inl (cA, 7, .inl (M 1))), (h 3, .inl (cA, 151, .inl (M 3))), (h 4, .inl (cA, 151, .inl (M 4))), (h 5, .inl (cA, 151, .inl (M 5))), (h 7, .inl (cA, 64, .inl (M 7))), (h 8, .inl (cA, 3, .inl (M 8))), (h 9, .inl (cA, 10, .inl (M 9)))], [6, 2], [0, 1, 3, 4, 5, 7, 8, 9], [0, 1, 9, 2, 3, 4, 8, 5, 6, 7], rfl, rfl, rfl, rfl, by decide, rfl, rfl, fun u => rfl⟩
