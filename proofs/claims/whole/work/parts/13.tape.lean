
noncomputable def xX3_thingOf (p0 : Int32) : Int32 := if p0 = 100 then (8) else (if p0 = 108 then (10) else (if p0 = 114 then (11) else (if p0 = 119 then (9) else ((-1)))))
set_option maxHeartbeats 4000000 in
set_option maxRecDepth 100000 in
theorem kX3_thingOf (l : Launch) (D : va_G) (cA : ClassId) (T : Nat × Nat × Nat) (p0 : Int32) : ∀ sz : Nat, Met l yX3_thingOf wsX3_thingOf { frames := 0, cells := 0, slots := 0, locals := 0 } (va_Pc [.int p0] (PreW D cA T ([] : va_W) sz)) (va_Qi (fun r (_ : Unit) => r = (xX3_thingOf p0)) (fun _ => PostW D cA (va_A ([] : va_W) sz) ([] : va_W)) (va_A ([] : va_W) sz)) 0 0 (va_A ([] : va_W) sz) := by
  refine m_pi (cc := cX3_thingOf) (maxL := 1) (own := RX3) (by decide) rfl rfl (Nat.le_of_ble_eq_true rfl) (fun {p e s m args below meth c} A C X => ?_)
  show G p l e { frames := 0, cells := 0, slots := 0, locals := 0 } s m args below meth c 0 0 D A (Qpi below D cA A args s ([] : va_W) X) 1 X (xX3_thingOf p0) ([] : va_W) 0 [(0, .int p0)] []
  unfold xX3_thingOf
  refine g_iload_n C (pc := 0) dX3_thingOf_0 0 rfl ?_
  refine g_case (p0) 100 (fun c1 => ?_) (fun c1 => ?_)
  · refine g_lkp C (pc := 1) (off := 43) 44 dX3_thingOf_1 (by decide) (by rw [c1] <;> rfl) (by decide) ?_
    refine g_bipush C (pc := 44) dX3_thingOf_44 cB_8 ?_
    exact r_pi C rfl dX3_thingOf_46
  · refine g_case (p0) 108 (fun c2 => ?_) (fun c2 => ?_)
    · refine g_lkp C (pc := 1) (off := 49) 50 dX3_thingOf_1 (by decide) (by rw [c2] <;> rfl) (by decide) ?_
      refine g_bipush C (pc := 50) dX3_thingOf_50 cB_10 ?_
      exact r_pi C rfl dX3_thingOf_52
    · refine g_case (p0) 114 (fun c3 => ?_) (fun c3 => ?_)
      · refine g_lkp C (pc := 1) (off := 52) 53 dX3_thingOf_1 (by decide) (by rw [c3] <;> rfl) (by decide) ?_
        refine g_bipush C (pc := 53) dX3_thingOf_53 cB_11 ?_
        exact r_pi C rfl dX3_thingOf_55
      · refine g_case (p0) 119 (fun c4 => ?_) (fun c4 => ?_)
        · refine g_lkp C (pc := 1) (off := 46) 47 dX3_thingOf_1 (by decide) (by rw [c4] <;> rfl) (by decide) ?_
          refine g_bipush C (pc := 47) dX3_thingOf_47 cB_9 ?_
          exact r_pi C rfl dX3_thingOf_49
        · refine g_lkp C (pc := 1) (off := 55) 56 dX3_thingOf_1 (by decide) (by show Op.lookupswitch.offset [(100, 43), (108, 49), (114, 52), (119, 46)] 55 (Int32.toInt p0) = 55; rw [lv_osw (a := 100) c1 rfl]; rw [lv_osw (a := 108) c2 rfl]; rw [lv_osw (a := 114) c3 rfl]; rw [lv_osw (a := 119) c4 rfl]; rfl) (by decide) ?_
          refine g_iconst C (pc := 56) dX3_thingOf_56 cI_m1 ?_
          exact r_pi C rfl dX3_thingOf_57
theorem inX3_readSign_3 : ∀ w ∈ u_ws RX3 TX3 6, w ∈ wsX3_readSign := by decide +kernel
noncomputable def xX3_readSign (M : St) (p0 : Int32) : Int32 × St := if (xX1_at 64 (sh 1 M) (M 0 1)) = p0 then (nm (sa M 0 (up (M 0) 1 (M 0 1 + 1))) fun M2 => (1, M2)) else ((0, M))
set_option maxHeartbeats 4000000 in
set_option maxRecDepth 100000 in
theorem kX3_readSign (l : Launch) (D : va_G) (cA : ClassId) (T : Nat × Nat × Nat) (h : Nat → Nat) (M : St) (p0 : Int32) (hz : (Ztape M)) : ∀ sz : Nat, Met l yX3_readSign wsX3_readSign { frames := 1, cells := 0, slots := 0, locals := 21 } (va_Pc [.ref (h 0), .int p0] (PreW D cA T (tapeW cA h M) sz)) (va_Qi (fun r u => (r, u) = (xX3_readSign M p0) ∧ (Ztape) u) (fun u => PostW D cA (va_A (tapeW cA h M) sz) (tapeW cA h u)) (va_A (tapeW cA h M) sz)) 0 0 (va_A (tapeW cA h M) sz) := by
  refine m_ei (Wf := tapeW cA h) (inv := (Ztape)) (cc := cX3_readSign) (maxL := 2) (own := RX3) (by decide) rfl rfl (Nat.le_of_ble_eq_true rfl) (fun {p e s m args below meth c} A C X => ?_)
  show G p l e { frames := 1, cells := 0, slots := 0, locals := 21 } s m args below meth c 0 0 D A (Qei below D cA A args s 0 0 (tapeW cA h) (Ztape) X) 2 X (xX3_readSign M p0) (tapeW cA h M) 0 [(0, .ref (h 0)), (1, .int p0)] []
  unfold xX3_readSign
  refine g_aload_n C (pc := 0) dX3_readSign_0 0 rfl ?_
  refine g_get C (pc := 1) inX3_readSign_3 rfl 0 (by decide) (List.mem_of_getElem? (i := 1) rfl) dX3_readSign_1 0 rfl (.ref (h 1)) rfl ?_
  refine g_aload_n C (pc := 4) dX3_readSign_4 0 rfl ?_
  refine g_get C (pc := 5) inX3_readSign_3 rfl 1 (by decide) (List.mem_of_getElem? (i := 2) rfl) dX3_readSign_5 0 rfl (.int (M 0 1)) rfl ?_
  refine g_Vpi C (pc := 8) (As := [.int (M 0 1)]) (kX1_at l D cA T 64 (sh 1 h) (sh 1 M) (M 0 1) hz) (v_tape_cells_1 cA h M) gX3_readSign_X1_at rfl ⟨rfl, rfl⟩ ⟨Nat.le_of_ble_eq_true rfl, Nat.le_of_ble_eq_true rfl⟩ ⟨Nat.zero_le _, Nat.zero_le _⟩ rfl (Nat.le_of_ble_eq_true rfl) hdV_X1_at 0 rfl rfl rfl dX3_readSign_8 ?_
  refine g_iload_n C (pc := 11) dX3_readSign_11 1 rfl ?_
  refine g_icmp_eq C (pc := 12) 17 dX3_readSign_12 (by decide) (fun c1 => ?_) (fun c1 => ?_)
  · refine g_aload_n C (pc := 17) dX3_readSign_17 0 rfl ?_
    refine g_dup C (pc := 18) dX3_readSign_18 rfl ?_
    refine g_get C (pc := 19) inX3_readSign_3 rfl 1 (by decide) (List.mem_of_getElem? (i := 2) rfl) dX3_readSign_19 0 rfl (.int (M 0 1)) rfl ?_
    refine g_iconst C (pc := 22) dX3_readSign_22 cI_1 ?_
    refine g_iadd C (pc := 23) dX3_readSign_23 ?_
    refine g_put C (pc := 24) tyX3 tyX3_ok nmX3 inX3_readSign_3 rfl 1 (by decide) rfl (List.mem_of_getElem? (i := 2) rfl) dX3_readSign_24 rfl rfl 0 rfl (Nat.le_of_ble_eq_true rfl) (tapeW cA h) (sa M 0 (up (M 0) 1 (M 0 1 + 1))) rfl (fun M2 eM2 => ?_)
    have hz2 : (Ztape M2) := by rw [eM2]; exact hz
    refine g_iconst C (pc := 27) dX3_readSign_27 cI_1 ?_
    exact r_ez C rfl (rfl) dX3_readSign_28 hz2
  · refine g_iconst C (pc := 15) dX3_readSign_15 cI_0 ?_
    exact r_ez C rfl (rfl) dX3_readSign_16 hz
theorem inX3_readNumber_3 : ∀ w ∈ u_ws RX3 TX3 6, w ∈ wsX3_readNumber := by decide +kernel
noncomputable def xX3_readNumber_l4 : Nat → St → Int32 → Int32 → Int32 → Int32 × St
  | 0, M4, _, _, _ => (0, M4)
  | k + 1, M4, p0, v2, v3 => if p0 ≤ v3 then ((v2, M4)) else (nm ((xX1_at 64 (sh 1 M4) (M4 0 1)) : Int32) fun x6 => if x6 < 48 then ((v2, M4)) else (if x6 ≤ 57 then (nm ((((10 * (if 0 < v2 then v2 else 0)) + x6) - 48) : Int32) fun x9 => nm (sa M4 0 (up (M4 0) 1 (M4 0 1 + 1))) fun M10 => nm (v3 + 1 : Int32) fun x11 => xX3_readNumber_l4 k M10 p0 x9 x11) else ((v2, M4))))
noncomputable def xX3_readNumber (M : St) (p0 : Int32) : Int32 × St := nm ((-1) : Int32) fun x1 => xX3_readNumber_l4 (mu 0 p0 + 1) M p0 x1 0
set_option maxHeartbeats 4000000 in
set_option maxRecDepth 100000 in
theorem kX3_readNumber (l : Launch) (D : va_G) (cA : ClassId) (T : Nat × Nat × Nat) (h : Nat → Nat) (M : St) (p0 : Int32) (hz : (Ztape M)) : ∀ sz : Nat, Met l yX3_readNumber wsX3_readNumber { frames := 1, cells := 0, slots := 0, locals := 21 } (va_Pc [.ref (h 0), .int p0] (PreW D cA T (tapeW cA h M) sz)) (va_Qi (fun r u => (r, u) = (xX3_readNumber M p0) ∧ (Ztape) u) (fun u => PostW D cA (va_A (tapeW cA h M) sz) (tapeW cA h u)) (va_A (tapeW cA h M) sz)) 0 0 (va_A (tapeW cA h M) sz) := by
  refine m_ei (Wf := tapeW cA h) (inv := (Ztape)) (cc := cX3_readNumber) (maxL := 5) (own := RX3) (by decide) rfl rfl (Nat.le_of_ble_eq_true rfl) (fun {p e s m args below meth c} A C X => ?_)
  show G p l e { frames := 1, cells := 0, slots := 0, locals := 21 } s m args below meth c 0 0 D A (Qei below D cA A args s 0 0 (tapeW cA h) (Ztape) X) 5 X (xX3_readNumber M p0) (tapeW cA h M) 0 [(0, .ref (h 0)), (1, .int p0)] []
  unfold xX3_readNumber
  refine g_iconst C (pc := 0) dX3_readNumber_0 cI_m1 ?_
  refine g_nmi (fun x1 ex1 => ?_)
  refine g_istore_n C (pc := 1) [(2, .int x1), (0, .ref (h 0)), (1, .int p0)] dX3_readNumber_1 (by decide) rfl ?_
  refine g_iconst C (pc := 2) dX3_readNumber_2 cI_0 ?_
  refine g_istore_n C (pc := 3) [(3, .int 0), (2, .int x1), (0, .ref (h 0)), (1, .int p0)] dX3_readNumber_3 (by decide) rfl ?_
  have L4 : ∀ (k : Nat) (M4 : St) (v2 : Int32) (v3 : Int32), (Ztape M4) → mu v3 p0 < k → G p l e { frames := 1, cells := 0, slots := 0, locals := 21 } s m args below meth c 0 0 D A (Qei below D cA A args s 0 0 (tapeW cA h) (Ztape) X) 5 X (xX3_readNumber_l4 k M4 p0 v2 v3) (tapeW cA h M4) 4 [(0, .ref (h 0)), (1, .int p0), (2, .int v2), (3, .int v3)] [] := by
    intro k
    induction k with
    | zero => intro M4 v2 v3 hz4 hmu; exact absurd hmu (Nat.not_lt_zero _)
    | succ k ih =>
      intro M4 v2 v3 hz4 hmu
      rw [xX3_readNumber_l4]
      refine g_iload_n C (pc := 4) dX3_readNumber_4 3 rfl ?_
      refine g_iload_n C (pc := 5) dX3_readNumber_5 1 rfl ?_
      refine g_icmp_ge C (pc := 6) 69 dX3_readNumber_6 (by decide) (fun c5 => ?_) (fun c5 => ?_)
      · refine g_iload_n C (pc := 69) dX3_readNumber_69 2 rfl ?_
        exact r_ei C rfl dX3_readNumber_70 hz4
      · refine g_aload_n C (pc := 9) dX3_readNumber_9 0 rfl ?_
        refine g_get C (pc := 10) inX3_readNumber_3 rfl 0 (by decide) (List.mem_of_getElem? (i := 1) rfl) dX3_readNumber_10 0 rfl (.ref (h 1)) rfl ?_
        refine g_aload_n C (pc := 13) dX3_readNumber_13 0 rfl ?_
        refine g_get C (pc := 14) inX3_readNumber_3 rfl 1 (by decide) (List.mem_of_getElem? (i := 2) rfl) dX3_readNumber_14 0 rfl (.int (M4 0 1)) rfl ?_
        refine g_Vpi C (pc := 17) (As := [.int (M4 0 1)]) (kX1_at l D cA T 64 (sh 1 h) (sh 1 M4) (M4 0 1) hz4) (v_tape_cells_1 cA h M4) gX3_readNumber_X1_at rfl ⟨rfl, rfl⟩ ⟨Nat.le_of_ble_eq_true rfl, Nat.le_of_ble_eq_true rfl⟩ ⟨Nat.zero_le _, Nat.zero_le _⟩ rfl (Nat.le_of_ble_eq_true rfl) hdV_X1_at 0 rfl rfl rfl dX3_readNumber_17 ?_
        refine g_nmi (fun x6 ex6 => ?_)
        refine g_istore C (pc := 20) [(4, .int x6), (0, .ref (h 0)), (1, .int p0), (2, .int v2), (3, .int v3)] dX3_readNumber_20 (by decide) rfl ?_
        refine g_iload C (pc := 22) dX3_readNumber_22 0 rfl ?_
        refine g_bipush C (pc := 24) dX3_readNumber_24 cB_48 ?_
        refine g_icmp_lt C (pc := 26) 36 dX3_readNumber_26 (by decide) (fun c7 => ?_) (fun c7 => ?_)
        · refine g_iload_n C (pc := 36) dX3_readNumber_36 3 rfl ?_
          exact r_ei C rfl dX3_readNumber_37 hz4
        · refine g_iload C (pc := 29) dX3_readNumber_29 0 rfl ?_
          refine g_bipush C (pc := 31) dX3_readNumber_31 cB_57 ?_
          refine g_icmp_le C (pc := 33) 38 dX3_readNumber_33 (by decide) (fun c8 => ?_) (fun c8 => ?_)
          · refine g_bipush C (pc := 38) dX3_readNumber_38 cB_10 ?_
            refine g_iconst C (pc := 40) dX3_readNumber_40 cI_0 ?_
            refine g_iload_n C (pc := 41) dX3_readNumber_41 3 rfl ?_
            refine g_max C (pc := 42) (List.mem_of_getElem? (i := 3) rfl) (List.mem_of_getElem? (i := 4) rfl) (List.mem_of_getElem? (i := 5) rfl) (List.mem_of_getElem? (i := 6) rfl) ⟨Nat.le_of_ble_eq_true rfl, Nat.le_of_ble_eq_true rfl, Nat.zero_le _, Nat.zero_le _⟩ dX3_readNumber_42 ?_
            refine g_imul C (pc := 45) dX3_readNumber_45 ?_
            refine g_iload C (pc := 46) dX3_readNumber_46 0 rfl ?_
            refine g_iadd C (pc := 48) dX3_readNumber_48 ?_
            refine g_bipush C (pc := 49) dX3_readNumber_49 cB_48 ?_
            refine g_isub C (pc := 51) dX3_readNumber_51 ?_
            refine g_nmi (fun x9 ex9 => ?_)
            refine g_istore_n C (pc := 52) [(2, .int x9), (4, .int x6), (0, .ref (h 0)), (1, .int p0), (3, .int v3)] dX3_readNumber_52 (by decide) rfl ?_
            refine g_aload_n C (pc := 53) dX3_readNumber_53 2 rfl ?_
            refine g_dup C (pc := 54) dX3_readNumber_54 rfl ?_
            refine g_get C (pc := 55) inX3_readNumber_3 rfl 1 (by decide) (List.mem_of_getElem? (i := 2) rfl) dX3_readNumber_55 0 rfl (.int (M4 0 1)) rfl ?_
            refine g_iconst C (pc := 58) dX3_readNumber_58 cI_1 ?_
            refine g_iadd C (pc := 59) dX3_readNumber_59 ?_
            refine g_put C (pc := 60) tyX3 tyX3_ok nmX3 inX3_readNumber_3 rfl 1 (by decide) rfl (List.mem_of_getElem? (i := 2) rfl) dX3_readNumber_60 rfl rfl 0 rfl (Nat.le_of_ble_eq_true rfl) (tapeW cA h) (sa M4 0 (up (M4 0) 1 (M4 0 1 + 1))) rfl (fun M10 eM10 => ?_)
            have hz10 : (Ztape M10) := by rw [eM10]; exact hz4
            refine g_iincN C (pc := 63) 1 (fun y => [(3, .int y), (2, .int x9), (4, .int x6), (0, .ref (h 0)), (1, .int p0)]) dX3_readNumber_63 4 rfl cI_1 (by decide) (fun _ => rfl) (fun x11 ex11 => ?_)
            refine g_goto C (pc := 66) 4 dX3_readNumber_66 (by decide) ?_
            refine g_sub [3, 4, 1, 0] rfl ?_
            exact ih M10 x9 x11 hz10 (by rw [ex11]; exact lp_dec c5 hmu)
          · refine g_iload_n C (pc := 36) dX3_readNumber_36 3 rfl ?_
            exact r_ei C rfl dX3_readNumber_37 hz4
  refine g_sub [2, 3, 1, 0] rfl ?_
  exact L4 _ M x1 0 hz (Nat.lt_succ_self _)
theorem inX3_readStatement_3 : ∀ w ∈ u_ws RX3 TX3 6, w ∈ wsX3_readStatement := by decide +kernel
noncomputable def xX3_readStatement (M : St) : Int32 × St := nm (sa M 0 (up (M 0) 2 (M 0 1))) fun M1 => nm (sa M1 0 (up (M1 0) 3 (xX3_thingOf (xX1_at 64 (sh 1 M1) (M1 0 1))))) fun M2 => if 0 ≤ M2 0 3 then (nm (sa M2 0 (up (M2 0) 1 (M2 0 1 + 1))) fun M4 => nm (xX3_readNumber M4 4) fun z5 => nm (z5.2) fun M6 => nm (sa M6 0 (up (M6 0) 4 (z5.1))) fun M7 => if M7 0 4 < 0 then ((0, M7)) else (nm (xX3_readSign M7 58) fun z9 => nm (z9.2) fun M10 => if z9.1 = 0 then ((0, M10)) else (nm (xX3_readNumber M10 3) fun z12 => nm (z12.2) fun M13 => nm (sa M13 0 (up (M13 0) 5 (z12.1))) fun M14 => if M14 0 5 < 0 then ((0, M14)) else (nm (xX3_readSign M14 59) fun z16 => nm (z16.2) fun M17 => if z16.1 = 0 then ((0, M17)) else ((1, M17)))))) else ((0, M2))
set_option maxHeartbeats 4000000 in
set_option maxRecDepth 100000 in
theorem kX3_readStatement (l : Launch) (D : va_G) (cA : ClassId) (T : Nat × Nat × Nat) (h : Nat → Nat) (M : St) (hz : (Ztape M)) : ∀ sz : Nat, Met l yX3_readStatement wsX3_readStatement { frames := 2, cells := 0, slots := 0, locals := 45 } (va_Pc [.ref (h 0)] (PreW D cA T (tapeW cA h M) sz)) (va_Qi (fun r u => (r, u) = (xX3_readStatement M) ∧ (Ztape) u) (fun u => PostW D cA (va_A (tapeW cA h M) sz) (tapeW cA h u)) (va_A (tapeW cA h M) sz)) 0 0 (va_A (tapeW cA h M) sz) := by
  refine m_ei (Wf := tapeW cA h) (inv := (Ztape)) (cc := cX3_readStatement) (maxL := 1) (own := RX3) (by decide) rfl rfl (Nat.le_of_ble_eq_true rfl) (fun {p e s m args below meth c} A C X => ?_)
  show G p l e { frames := 2, cells := 0, slots := 0, locals := 45 } s m args below meth c 0 0 D A (Qei below D cA A args s 0 0 (tapeW cA h) (Ztape) X) 1 X (xX3_readStatement M) (tapeW cA h M) 0 [(0, .ref (h 0))] []
  unfold xX3_readStatement
  refine g_aload_n C (pc := 0) dX3_readStatement_0 0 rfl ?_
  refine g_aload_n C (pc := 1) dX3_readStatement_1 0 rfl ?_
  refine g_get C (pc := 2) inX3_readStatement_3 rfl 1 (by decide) (List.mem_of_getElem? (i := 1) rfl) dX3_readStatement_2 0 rfl (.int (M 0 1)) rfl ?_
  refine g_put C (pc := 5) tyX3 tyX3_ok nmX3 inX3_readStatement_3 rfl 2 (by decide) rfl (List.mem_of_getElem? (i := 2) rfl) dX3_readStatement_5 rfl rfl 0 rfl (Nat.le_of_ble_eq_true rfl) (tapeW cA h) (sa M 0 (up (M 0) 2 (M 0 1))) rfl (fun M1 eM1 => ?_)
  have hz1 : (Ztape M1) := by rw [eM1]; exact hz
  refine g_aload_n C (pc := 8) dX3_readStatement_8 0 rfl ?_
  refine g_aload_n C (pc := 9) dX3_readStatement_9 0 rfl ?_
  refine g_get C (pc := 10) inX3_readStatement_3 rfl 0 (by decide) (List.mem_of_getElem? (i := 3) rfl) dX3_readStatement_10 0 rfl (.ref (h 1)) rfl ?_
  refine g_aload_n C (pc := 13) dX3_readStatement_13 0 rfl ?_
  refine g_get C (pc := 14) inX3_readStatement_3 rfl 1 (by decide) (List.mem_of_getElem? (i := 1) rfl) dX3_readStatement_14 0 rfl (.int (M1 0 1)) rfl ?_
  refine g_Vpi C (pc := 17) (As := [.int (M1 0 1)]) (kX1_at l D cA T 64 (sh 1 h) (sh 1 M1) (M1 0 1) hz1) (v_tape_cells_1 cA h M1) gX3_readStatement_X1_at rfl ⟨rfl, rfl⟩ ⟨Nat.le_of_ble_eq_true rfl, Nat.le_of_ble_eq_true rfl⟩ ⟨Nat.zero_le _, Nat.zero_le _⟩ rfl (Nat.le_of_ble_eq_true rfl) hdV_X1_at 0 rfl rfl rfl dX3_readStatement_17 ?_
  refine g_Spi C (pc := 20) (As := [.int (xX1_at 64 (sh 1 M1) (M1 0 1))]) (kX3_thingOf l D cA T (xX1_at 64 (sh 1 M1) (M1 0 1))) (v_none (tapeW cA h M1) 3 rfl rfl) gX3_readStatement_X3_thingOf rfl ⟨rfl, rfl⟩ ⟨Nat.le_of_ble_eq_true rfl, Nat.le_of_ble_eq_true rfl⟩ ⟨Nat.zero_le _, Nat.zero_le _⟩ rfl (Nat.le_of_ble_eq_true rfl) hdS_X3_thingOf rfl dX3_readStatement_20 ?_
  refine g_put C (pc := 23) tyX3 tyX3_ok nmX3 inX3_readStatement_3 rfl 3 (by decide) rfl (List.mem_of_getElem? (i := 4) rfl) dX3_readStatement_23 rfl rfl 0 rfl (Nat.le_of_ble_eq_true rfl) (tapeW cA h) (sa M1 0 (up (M1 0) 3 (xX3_thingOf (xX1_at 64 (sh 1 M1) (M1 0 1))))) rfl (fun M2 eM2 => ?_)
  have hz2 : (Ztape M2) := by rw [eM2]; exact hz1
  refine g_aload_n C (pc := 26) dX3_readStatement_26 0 rfl ?_
  refine g_get C (pc := 27) inX3_readStatement_3 rfl 3 (by decide) (List.mem_of_getElem? (i := 4) rfl) dX3_readStatement_27 0 rfl (.int (M2 0 3)) rfl ?_
  refine g_if_ge C (pc := 30) 35 dX3_readStatement_30 (by decide) (fun c3 => ?_) (fun c3 => ?_)
  · refine g_aload_n C (pc := 35) dX3_readStatement_35 0 rfl ?_
    refine g_dup C (pc := 36) dX3_readStatement_36 rfl ?_
    refine g_get C (pc := 37) inX3_readStatement_3 rfl 1 (by decide) (List.mem_of_getElem? (i := 1) rfl) dX3_readStatement_37 0 rfl (.int (M2 0 1)) rfl ?_
    refine g_iconst C (pc := 40) dX3_readStatement_40 cI_1 ?_
    refine g_iadd C (pc := 41) dX3_readStatement_41 ?_
    refine g_put C (pc := 42) tyX3 tyX3_ok nmX3 inX3_readStatement_3 rfl 1 (by decide) rfl (List.mem_of_getElem? (i := 1) rfl) dX3_readStatement_42 rfl rfl 0 rfl (Nat.le_of_ble_eq_true rfl) (tapeW cA h) (sa M2 0 (up (M2 0) 1 (M2 0 1 + 1))) rfl (fun M4 eM4 => ?_)
    have hz4 : (Ztape M4) := by rw [eM4]; exact hz2
    refine g_aload_n C (pc := 45) dX3_readStatement_45 0 rfl ?_
    refine g_aload_n C (pc := 46) dX3_readStatement_46 0 rfl ?_
    refine g_iconst C (pc := 47) dX3_readStatement_47 cI_4 ?_
    refine g_Vei C (pc := 48) (As := [.int 4]) (kX3_readNumber l D cA T h M4 4 hz4) (v_id (tapeW cA h) M4 3 (fun _ => rfl) rfl) gX3_readStatement_X3_readNumber rfl ⟨rfl, rfl⟩ ⟨Nat.le_of_ble_eq_true rfl, Nat.le_of_ble_eq_true rfl⟩ ⟨Nat.zero_le _, Nat.zero_le _⟩ rfl (Nat.le_of_ble_eq_true rfl) hdV_X3_readNumber 0 rfl rfl rfl dX3_readStatement_48 (fun z5 ez5 hz_z5 => ?_)
    refine g_nmW (tapeW cA h) (fun M6 eM6 => ?_)
    have hz6 : (Ztape M6) := by rw [eM6]; exact hz_z5
    refine g_put C (pc := 51) tyX3 tyX3_ok nmX3 inX3_readStatement_3 rfl 4 (by decide) rfl (List.mem_of_getElem? (i := 5) rfl) dX3_readStatement_51 rfl rfl 0 rfl (Nat.le_of_ble_eq_true rfl) (tapeW cA h) (sa M6 0 (up (M6 0) 4 (z5.1))) rfl (fun M7 eM7 => ?_)
    have hz7 : (Ztape M7) := by rw [eM7]; exact hz6
    refine g_aload_n C (pc := 54) dX3_readStatement_54 0 rfl ?_
    refine g_get C (pc := 55) inX3_readStatement_3 rfl 4 (by decide) (List.mem_of_getElem? (i := 5) rfl) dX3_readStatement_55 0 rfl (.int (M7 0 4)) rfl ?_
    refine g_if_lt C (pc := 58) 70 dX3_readStatement_58 (by decide) (fun c8 => ?_) (fun c8 => ?_)
    · refine g_iconst C (pc := 70) dX3_readStatement_70 cI_0 ?_
      exact r_ez C rfl (rfl) dX3_readStatement_71 hz7
    · refine g_aload_n C (pc := 61) dX3_readStatement_61 0 rfl ?_
      refine g_bipush C (pc := 62) dX3_readStatement_62 cB_58 ?_
      refine g_Vei C (pc := 64) (As := [.int 58]) (kX3_readSign l D cA T h M7 58 hz7) (v_id (tapeW cA h) M7 3 (fun _ => rfl) rfl) gX3_readStatement_X3_readSign rfl ⟨rfl, rfl⟩ ⟨Nat.le_of_ble_eq_true rfl, Nat.le_of_ble_eq_true rfl⟩ ⟨Nat.zero_le _, Nat.zero_le _⟩ rfl (Nat.le_of_ble_eq_true rfl) hdV_X3_readSign 0 rfl rfl rfl dX3_readStatement_64 (fun z9 ez9 hz_z9 => ?_)
      refine g_nmW (tapeW cA h) (fun M10 eM10 => ?_)
      have hz10 : (Ztape M10) := by rw [eM10]; exact hz_z9
      refine g_if_ne C (pc := 67) 72 dX3_readStatement_67 (by decide) (fun c11 => ?_) (fun c11 => ?_)
      · refine g_aload_n C (pc := 72) dX3_readStatement_72 0 rfl ?_
        refine g_aload_n C (pc := 73) dX3_readStatement_73 0 rfl ?_
        refine g_iconst C (pc := 74) dX3_readStatement_74 cI_3 ?_
        refine g_Vei C (pc := 75) (As := [.int 3]) (kX3_readNumber l D cA T h M10 3 hz10) (v_id (tapeW cA h) M10 3 (fun _ => rfl) rfl) gX3_readStatement_X3_readNumber rfl ⟨rfl, rfl⟩ ⟨Nat.le_of_ble_eq_true rfl, Nat.le_of_ble_eq_true rfl⟩ ⟨Nat.zero_le _, Nat.zero_le _⟩ rfl (Nat.le_of_ble_eq_true rfl) hdV_X3_readNumber 0 rfl rfl rfl dX3_readStatement_75 (fun z12 ez12 hz_z12 => ?_)
        refine g_nmW (tapeW cA h) (fun M13 eM13 => ?_)
        have hz13 : (Ztape M13) := by rw [eM13]; exact hz_z12
        refine g_put C (pc := 78) tyX3 tyX3_ok nmX3 inX3_readStatement_3 rfl 5 (by decide) rfl (List.mem_of_getElem? (i := 6) rfl) dX3_readStatement_78 rfl rfl 0 rfl (Nat.le_of_ble_eq_true rfl) (tapeW cA h) (sa M13 0 (up (M13 0) 5 (z12.1))) rfl (fun M14 eM14 => ?_)
        have hz14 : (Ztape M14) := by rw [eM14]; exact hz13
        refine g_aload_n C (pc := 81) dX3_readStatement_81 0 rfl ?_
        refine g_get C (pc := 82) inX3_readStatement_3 rfl 5 (by decide) (List.mem_of_getElem? (i := 6) rfl) dX3_readStatement_82 0 rfl (.int (M14 0 5)) rfl ?_
        refine g_if_lt C (pc := 85) 101 dX3_readStatement_85 (by decide) (fun c15 => ?_) (fun c15 => ?_)
        · refine g_iconst C (pc := 101) dX3_readStatement_101 cI_0 ?_
          exact r_ez C rfl (rfl) dX3_readStatement_102 hz14
        · refine g_aload_n C (pc := 88) dX3_readStatement_88 0 rfl ?_
          refine g_bipush C (pc := 89) dX3_readStatement_89 cB_59 ?_
          refine g_Vei C (pc := 91) (As := [.int 59]) (kX3_readSign l D cA T h M14 59 hz14) (v_id (tapeW cA h) M14 3 (fun _ => rfl) rfl) gX3_readStatement_X3_readSign rfl ⟨rfl, rfl⟩ ⟨Nat.le_of_ble_eq_true rfl, Nat.le_of_ble_eq_true rfl⟩ ⟨Nat.zero_le _, Nat.zero_le _⟩ rfl (Nat.le_of_ble_eq_true rfl) hdV_X3_readSign 0 rfl rfl rfl dX3_readStatement_91 (fun z16 ez16 hz_z16 => ?_)
          refine g_nmW (tapeW cA h) (fun M17 eM17 => ?_)
          have hz17 : (Ztape M17) := by rw [eM17]; exact hz_z16
          refine g_if_eq C (pc := 94) 101 dX3_readStatement_94 (by decide) (fun c18 => ?_) (fun c18 => ?_)
          · refine g_iconst C (pc := 101) dX3_readStatement_101 cI_0 ?_
            exact r_ez C rfl (rfl) dX3_readStatement_102 hz17
          · refine g_iconst C (pc := 97) dX3_readStatement_97 cI_1 ?_
            refine g_goto C (pc := 98) 102 dX3_readStatement_98 (by decide) ?_
            exact r_ez C rfl (rfl) dX3_readStatement_102 hz17
      · refine g_iconst C (pc := 70) dX3_readStatement_70 cI_0 ?_
        exact r_ez C rfl (rfl) dX3_readStatement_71 hz10
  · refine g_iconst C (pc := 33) dX3_readStatement_33 cI_0 ?_
    exact r_ez C rfl (rfl) dX3_readStatement_34 hz2
theorem inX3_hasForm_3 : ∀ w ∈ u_ws RX3 TX3 6, w ∈ wsX3_hasForm := by decide +kernel
theorem bz_rs {x : Int32} {z : Int32 × St} {M : St} (ex : x = z.1) (ez : z = xX3_readStatement M) : x = 0 ∨ x = 1 := by
  subst ex
  subst ez
  unfold xX3_readStatement
  simp only [nm]
  repeat' split
  all_goals simp
noncomputable def xX3_hasForm_l12 : Nat → St → Int32 → Int32 → Int32 × St
  | 0, M7, _, _ => (0, M7)
  | k + 1, M7, v5, v6 => if 64 ≤ v6 then ((v5, M7)) else (if v5 = 0 then ((v5, M7)) else (if (xX1_size 64 (sh 1 M7)) ≤ M7 0 1 then ((v5, M7)) else (nm (xX3_readStatement M7) fun z11 => nm (z11.2) fun M12 => nm (z11.1 : Int32) fun x13 => nm (v6 + 1 : Int32) fun x14 => xX3_hasForm_l12 k M12 x13 x14)))
noncomputable def xX3_hasForm (M : St) : Int32 × St := nm (sa M 0 (up (M 0) 1 0)) fun M1 => nm (xX3_readStatement M1) fun z2 => nm (z2.2) fun M3 => nm (z2.1 : Int32) fun x4 => xX3_hasForm_l12 (mu 0 64 + 1) M3 x4 0
set_option maxHeartbeats 4000000 in
set_option maxRecDepth 100000 in
theorem kX3_hasForm (l : Launch) (D : va_G) (cA : ClassId) (T : Nat × Nat × Nat) (h : Nat → Nat) (M : St) (hz : (Ztape M)) : ∀ sz : Nat, Met l yX3_hasForm wsX3_hasForm { frames := 3, cells := 0, slots := 0, locals := 65 } (va_Pc [.ref (h 0)] (PreW D cA T (tapeW cA h M) sz)) (va_Qi (fun r u => (r, u) = (xX3_hasForm M) ∧ (Ztape) u) (fun u => PostW D cA (va_A (tapeW cA h M) sz) (tapeW cA h u)) (va_A (tapeW cA h M) sz)) 0 0 (va_A (tapeW cA h M) sz) := by
  refine m_ei (Wf := tapeW cA h) (inv := (Ztape)) (cc := cX3_hasForm) (maxL := 3) (own := RX3) (by decide) rfl rfl (Nat.le_of_ble_eq_true rfl) (fun {p e s m args below meth c} A C X => ?_)
  show G p l e { frames := 3, cells := 0, slots := 0, locals := 65 } s m args below meth c 0 0 D A (Qei below D cA A args s 0 0 (tapeW cA h) (Ztape) X) 3 X (xX3_hasForm M) (tapeW cA h M) 0 [(0, .ref (h 0))] []
  unfold xX3_hasForm
  refine g_aload_n C (pc := 0) dX3_hasForm_0 0 rfl ?_
  refine g_iconst C (pc := 1) dX3_hasForm_1 cI_0 ?_
  refine g_put C (pc := 2) tyX3 tyX3_ok nmX3 inX3_hasForm_3 rfl 1 (by decide) rfl (List.mem_of_getElem? (i := 1) rfl) dX3_hasForm_2 rfl rfl 0 rfl (Nat.le_of_ble_eq_true rfl) (tapeW cA h) (sa M 0 (up (M 0) 1 0)) rfl (fun M1 eM1 => ?_)
  have hz1 : (Ztape M1) := by rw [eM1]; exact hz
  refine g_aload_n C (pc := 5) dX3_hasForm_5 0 rfl ?_
  refine g_Vei C (pc := 6) (As := []) (kX3_readStatement l D cA T h M1 hz1) (v_id (tapeW cA h) M1 3 (fun _ => rfl) rfl) gX3_hasForm_X3_readStatement rfl ⟨rfl, rfl⟩ ⟨Nat.le_of_ble_eq_true rfl, Nat.le_of_ble_eq_true rfl⟩ ⟨Nat.zero_le _, Nat.zero_le _⟩ rfl (Nat.le_of_ble_eq_true rfl) hdV_X3_readStatement 0 rfl rfl rfl dX3_hasForm_6 (fun z2 ez2 hz_z2 => ?_)
  refine g_nmW (tapeW cA h) (fun M3 eM3 => ?_)
  have hz3 : (Ztape M3) := by rw [eM3]; exact hz_z2
  refine g_nmi (fun x4 ex4 => ?_)
  refine g_istore_n C (pc := 9) [(1, .int x4), (0, .ref (h 0))] dX3_hasForm_9 (by decide) rfl ?_
  refine g_iconst C (pc := 10) dX3_hasForm_10 cI_0 ?_
  refine g_istore_n C (pc := 11) [(2, .int 0), (1, .int x4), (0, .ref (h 0))] dX3_hasForm_11 (by decide) rfl ?_
  have L12 : ∀ (k : Nat) (M7 : St) (v5 : Int32) (v6 : Int32), (Ztape M7) → (v5 = 0 ∨ v5 = 1) → mu v6 64 < k → G p l e { frames := 3, cells := 0, slots := 0, locals := 65 } s m args below meth c 0 0 D A (Qei below D cA A args s 0 0 (tapeW cA h) (Ztape) X) 3 X (xX3_hasForm_l12 k M7 v5 v6) (tapeW cA h M7) 12 [(0, .ref (h 0)), (1, .int v5), (2, .int v6)] [] := by
    intro k
    induction k with
    | zero => intro M7 v5 v6 hz7 hb hmu; exact absurd hmu (Nat.not_lt_zero _)
    | succ k ih =>
      intro M7 v5 v6 hz7 hb hmu
      rw [xX3_hasForm_l12]
      refine g_iload_n C (pc := 12) dX3_hasForm_12 2 rfl ?_
      refine g_bipush C (pc := 13) dX3_hasForm_13 cB_64 ?_
      refine g_icmp_ge C (pc := 15) 47 dX3_hasForm_15 (by decide) (fun c8 => ?_) (fun c8 => ?_)
      · refine g_iload_n C (pc := 47) dX3_hasForm_47 1 rfl ?_
        exact r_ez C rfl ((bz_of hb)) dX3_hasForm_48 hz7
      · refine g_iload_n C (pc := 18) dX3_hasForm_18 1 rfl ?_
        refine g_if_eq C (pc := 19) 47 dX3_hasForm_19 (by decide) (fun c9 => ?_) (fun c9 => ?_)
        · refine g_iload_n C (pc := 47) dX3_hasForm_47 1 rfl ?_
          exact r_ez C rfl ((bz_of hb)) dX3_hasForm_48 hz7
        · refine g_aload_n C (pc := 22) dX3_hasForm_22 0 rfl ?_
          refine g_get C (pc := 23) inX3_hasForm_3 rfl 1 (by decide) (List.mem_of_getElem? (i := 1) rfl) dX3_hasForm_23 0 rfl (.int (M7 0 1)) rfl ?_
          refine g_aload_n C (pc := 26) dX3_hasForm_26 0 rfl ?_
          refine g_get C (pc := 27) inX3_hasForm_3 rfl 0 (by decide) (List.mem_of_getElem? (i := 2) rfl) dX3_hasForm_27 0 rfl (.ref (h 1)) rfl ?_
          refine g_Vpi C (pc := 30) (As := []) (kX1_size l D cA T 64 (sh 1 h) (sh 1 M7) hz7) (v_tape_cells_1 cA h M7) gX3_hasForm_X1_size rfl ⟨rfl, rfl⟩ ⟨Nat.le_of_ble_eq_true rfl, Nat.le_of_ble_eq_true rfl⟩ ⟨Nat.zero_le _, Nat.zero_le _⟩ rfl (Nat.le_of_ble_eq_true rfl) hdV_X1_size 0 rfl rfl rfl dX3_hasForm_30 ?_
          refine g_icmp_ge C (pc := 33) 47 dX3_hasForm_33 (by decide) (fun c10 => ?_) (fun c10 => ?_)
          · refine g_iload_n C (pc := 47) dX3_hasForm_47 1 rfl ?_
            exact r_ez C rfl ((bz_of hb)) dX3_hasForm_48 hz7
          · refine g_aload_n C (pc := 36) dX3_hasForm_36 0 rfl ?_
            refine g_Vei C (pc := 37) (As := []) (kX3_readStatement l D cA T h M7 hz7) (v_id (tapeW cA h) M7 3 (fun _ => rfl) rfl) gX3_hasForm_X3_readStatement rfl ⟨rfl, rfl⟩ ⟨Nat.le_of_ble_eq_true rfl, Nat.le_of_ble_eq_true rfl⟩ ⟨Nat.zero_le _, Nat.zero_le _⟩ rfl (Nat.le_of_ble_eq_true rfl) hdV_X3_readStatement 0 rfl rfl rfl dX3_hasForm_37 (fun z11 ez11 hz_z11 => ?_)
            refine g_nmW (tapeW cA h) (fun M12 eM12 => ?_)
            have hz12 : (Ztape M12) := by rw [eM12]; exact hz_z11
            refine g_nmi (fun x13 ex13 => ?_)
            refine g_istore_n C (pc := 40) [(1, .int x13), (0, .ref (h 0)), (2, .int v6)] dX3_hasForm_40 (by decide) rfl ?_
            refine g_iincN C (pc := 41) 1 (fun y => [(2, .int y), (1, .int x13), (0, .ref (h 0))]) dX3_hasForm_41 2 rfl cI_1 (by decide) (fun _ => rfl) (fun x14 ex14 => ?_)
            refine g_goto C (pc := 44) 12 dX3_hasForm_44 (by decide) ?_
            refine g_sub [2, 1, 0] rfl ?_
            exact ih M12 x13 x14 hz12 (bz_rs ex13 ez11) (by rw [ex14]; exact lp_dec c8 hmu)
  refine g_sub [2, 1, 0] rfl ?_
  exact L12 _ M3 x4 0 hz3 (bz_rs ex4 ez2) (Nat.lt_succ_self _)
theorem inX3_readInto_3 : ∀ w ∈ u_ws RX3 TX3 6, w ∈ wsX3_readInto := by decide +kernel
noncomputable def xX3_readInto_j114 (M8 : St) (x4 : Int32) : Int32 × St := (((xX2_size (sh 3 M8)) - x4), M8)
noncomputable def xX3_readInto_j78 (M13 : St) (x4 : Int32) : Int32 × St := nm (xX2_cutTo (sh 3 M13) x4) fun z14 => nm (put 3 7 z14 M13) fun M15 => (((-2000) - M15 0 2), M15)
noncomputable def xX3_readInto_l28 : Nat → St → Int32 → Int32 → Int32 × St
  | 0, M7, _, _ => (0, M7)
  | k + 1, M7, x4, v6 => if 64 ≤ v6 then (xX3_readInto_j114 M7 x4) else (if (xX1_size 64 (sh 1 M7)) ≤ M7 0 1 then (xX3_readInto_j114 M7 x4) else (nm (xX3_readStatement (sh 0 M7)) fun z11 => nm (put 0 3 z11.2 M7) fun M12 => if z11.1 = 0 then (xX3_readInto_j78 M12 x4) else (if (xX4_isInRange (M12 0 3) (M12 0 5)) = 0 then (xX3_readInto_j78 M12 x4) else (if (xX2_size (sh 3 M12)) < 20 then (nm (xX2_add (sh 3 M12) (M12 0 3) (M12 0 4) (M12 0 5)) fun z19 => nm (put 3 7 z19 M12) fun M20 => nm (v6 + 1 : Int32) fun x21 => xX3_readInto_l28 k M20 x4 x21) else (xX3_readInto_j78 M12 x4)))))
noncomputable def xX3_readInto (M : St) : Int32 × St := nm (xX3_hasForm (sh 0 M)) fun z1 => nm (put 0 3 z1.2 M) fun M2 => if z1.1 = 0 then ((((-1000) - M2 0 1), M2)) else (nm ((xX2_size (sh 3 M2)) : Int32) fun x4 => nm (sa M2 0 (up (M2 0) 1 0)) fun M5 => xX3_readInto_l28 (mu 0 64 + 1) M5 x4 0)
set_option maxHeartbeats 4000000 in
set_option maxRecDepth 100000 in
theorem kX3_readInto (l : Launch) (D : va_G) (cA : ClassId) (T : Nat × Nat × Nat) (h : Nat → Nat) (M : St) (hz : (Ztapeh M)) : ∀ sz : Nat, Met l yX3_readInto wsX3_readInto { frames := 4, cells := 0, slots := 0, locals := 87 } (va_Pc [.ref (h 0), .ref (h 3)] (PreW D cA T (tapehW cA h M) sz)) (va_Qi (fun r u => (r, u) = (xX3_readInto M) ∧ (Ztapeh) u) (fun u => PostW D cA (va_A (tapehW cA h M) sz) (tapehW cA h u)) (va_A (tapehW cA h M) sz)) 0 0 (va_A (tapehW cA h M) sz) := by
  refine m_ei (Wf := tapehW cA h) (inv := (Ztapeh)) (cc := cX3_readInto) (maxL := 4) (own := RX3) (by decide) rfl rfl (Nat.le_of_ble_eq_true rfl) (fun {p e s m args below meth c} A C X => ?_)
  show G p l e { frames := 4, cells := 0, slots := 0, locals := 87 } s m args below meth c 0 0 D A (Qei below D cA A args s 0 0 (tapehW cA h) (Ztapeh) X) 4 X (xX3_readInto M) (tapehW cA h M) 0 [(0, .ref (h 0)), (1, .ref (h 3))] []
  unfold xX3_readInto
  refine g_aload_n C (pc := 0) dX3_readInto_0 0 rfl ?_
  refine g_Vei C (pc := 1) (As := []) (kX3_hasForm l D cA T (sh 0 h) (sh 0 M) hz.1) (v_tapeh_tape_0 cA h M) gX3_readInto_X3_hasForm rfl ⟨rfl, rfl⟩ ⟨Nat.le_of_ble_eq_true rfl, Nat.le_of_ble_eq_true rfl⟩ ⟨Nat.zero_le _, Nat.zero_le _⟩ rfl (Nat.le_of_ble_eq_true rfl) hdV_X3_hasForm 0 rfl rfl rfl dX3_readInto_1 (fun z1 ez1 hz_z1 => ?_)
  refine g_nmW (tapehW cA h) (fun M2 eM2 => ?_)
  have hz2 : (Ztapeh M2) := by rw [eM2]; exact ⟨hz_z1, hz.2.1, hz.2.2.1, hz.2.2.2⟩
  refine g_if_ne C (pc := 4) 16 dX3_readInto_4 (by decide) (fun c3 => ?_) (fun c3 => ?_)
  · refine g_aload_n C (pc := 16) dX3_readInto_16 1 rfl ?_
    refine g_Vpi C (pc := 17) (As := []) (kX2_size l D cA T (sh 3 h) (sh 3 M2) ⟨hz2.2.1, hz2.2.2.1, hz2.2.2.2⟩) (v_tapeh_hours_3 cA h M2) gX3_readInto_X2_size rfl ⟨rfl, rfl⟩ ⟨Nat.le_of_ble_eq_true rfl, Nat.le_of_ble_eq_true rfl⟩ ⟨Nat.zero_le _, Nat.zero_le _⟩ rfl (Nat.le_of_ble_eq_true rfl) hdV_X2_size 0 rfl rfl rfl dX3_readInto_17 ?_
    refine g_nmi (fun x4 ex4 => ?_)
    refine g_istore_n C (pc := 20) [(2, .int x4), (0, .ref (h 0)), (1, .ref (h 3))] dX3_readInto_20 (by decide) rfl ?_
    refine g_aload_n C (pc := 21) dX3_readInto_21 1 rfl ?_
    refine g_iconst C (pc := 22) dX3_readInto_22 cI_0 ?_
    refine g_put C (pc := 23) tyX3 tyX3_ok nmX3 inX3_readInto_3 rfl 1 (by decide) rfl (List.mem_of_getElem? (i := 1) rfl) dX3_readInto_23 rfl rfl 0 rfl (Nat.le_of_ble_eq_true rfl) (tapehW cA h) (sa M2 0 (up (M2 0) 1 0)) rfl (fun M5 eM5 => ?_)
    have hz5 : (Ztapeh M5) := by rw [eM5]; exact hz2
    refine g_iconst C (pc := 26) dX3_readInto_26 cI_0 ?_
    refine g_istore_n C (pc := 27) [(3, .int 0), (2, .int x4), (0, .ref (h 0)), (1, .ref (h 3))] dX3_readInto_27 (by decide) rfl ?_
    have L28 : ∀ (k : Nat) (M7 : St) (v6 : Int32), (Ztapeh M7) → mu v6 64 < k → G p l e { frames := 4, cells := 0, slots := 0, locals := 87 } s m args below meth c 0 0 D A (Qei below D cA A args s 0 0 (tapehW cA h) (Ztapeh) X) 4 X (xX3_readInto_l28 k M7 x4 v6) (tapehW cA h M7) 28 [(0, .ref (h 0)), (1, .ref (h 3)), (2, .int x4), (3, .int v6)] [] := by
      intro k
      induction k with
      | zero => intro M7 v6 hz7 hmu; exact absurd hmu (Nat.not_lt_zero _)
      | succ k ih =>
        intro M7 v6 hz7 hmu
        rw [xX3_readInto_l28]
        refine g_iload_n C (pc := 28) dX3_readInto_28 3 rfl ?_
        refine g_bipush C (pc := 29) dX3_readInto_29 cB_64 ?_
        have J114 : ∀ (M8 : St), (Ztapeh M8) → G p l e { frames := 4, cells := 0, slots := 0, locals := 87 } s m args below meth c 0 0 D A (Qei below D cA A args s 0 0 (tapehW cA h) (Ztapeh) X) 4 X (xX3_readInto_j114 M8 x4) (tapehW cA h M8) 114 [(1, .ref (h 3)), (2, .int x4)] [] := by
          intro M8 hz8
          unfold xX3_readInto_j114
          refine g_aload_n C (pc := 114) dX3_readInto_114 0 rfl ?_
          refine g_Vpi C (pc := 115) (As := []) (kX2_size l D cA T (sh 3 h) (sh 3 M8) ⟨hz8.2.1, hz8.2.2.1, hz8.2.2.2⟩) (v_tapeh_hours_3 cA h M8) gX3_readInto_X2_size rfl ⟨rfl, rfl⟩ ⟨Nat.le_of_ble_eq_true rfl, Nat.le_of_ble_eq_true rfl⟩ ⟨Nat.zero_le _, Nat.zero_le _⟩ rfl (Nat.le_of_ble_eq_true rfl) hdV_X2_size 0 rfl rfl rfl dX3_readInto_115 ?_
          refine g_iload_n C (pc := 118) dX3_readInto_118 1 rfl ?_
          refine g_isub C (pc := 119) dX3_readInto_119 ?_
          exact r_ei C rfl dX3_readInto_120 hz8
        refine g_icmp_ge C (pc := 31) 114 dX3_readInto_31 (by decide) (fun c9 => ?_) (fun c9 => ?_)
        · refine g_sub [1, 2] rfl ?_
          exact J114 M7 hz7
        · refine g_aload_n C (pc := 34) dX3_readInto_34 0 rfl ?_
          refine g_get C (pc := 35) inX3_readInto_3 rfl 1 (by decide) (List.mem_of_getElem? (i := 1) rfl) dX3_readInto_35 0 rfl (.int (M7 0 1)) rfl ?_
          refine g_aload_n C (pc := 38) dX3_readInto_38 0 rfl ?_
          refine g_get C (pc := 39) inX3_readInto_3 rfl 0 (by decide) (List.mem_of_getElem? (i := 2) rfl) dX3_readInto_39 0 rfl (.ref (h 1)) rfl ?_
          refine g_Vpi C (pc := 42) (As := []) (kX1_size l D cA T 64 (sh 1 h) (sh 1 M7) hz7.1) (v_tapeh_cells_1 cA h M7) gX3_readInto_X1_size rfl ⟨rfl, rfl⟩ ⟨Nat.le_of_ble_eq_true rfl, Nat.le_of_ble_eq_true rfl⟩ ⟨Nat.zero_le _, Nat.zero_le _⟩ rfl (Nat.le_of_ble_eq_true rfl) hdV_X1_size 0 rfl rfl rfl dX3_readInto_42 ?_
          refine g_icmp_ge C (pc := 45) 114 dX3_readInto_45 (by decide) (fun c10 => ?_) (fun c10 => ?_)
          · refine g_sub [1, 2] rfl ?_
            exact J114 M7 hz7
          · refine g_aload_n C (pc := 48) dX3_readInto_48 0 rfl ?_
            refine g_Vei C (pc := 49) (As := []) (kX3_readStatement l D cA T (sh 0 h) (sh 0 M7) hz7.1) (v_tapeh_tape_0 cA h M7) gX3_readInto_X3_readStatement rfl ⟨rfl, rfl⟩ ⟨Nat.le_of_ble_eq_true rfl, Nat.le_of_ble_eq_true rfl⟩ ⟨Nat.zero_le _, Nat.zero_le _⟩ rfl (Nat.le_of_ble_eq_true rfl) hdV_X3_readStatement 0 rfl rfl rfl dX3_readInto_49 (fun z11 ez11 hz_z11 => ?_)
            refine g_nmW (tapehW cA h) (fun M12 eM12 => ?_)
            have hz12 : (Ztapeh M12) := by rw [eM12]; exact ⟨hz_z11, hz7.2.1, hz7.2.2.1, hz7.2.2.2⟩
            have J78 : ∀ (M13 : St), (Ztapeh M13) → G p l e { frames := 4, cells := 0, slots := 0, locals := 87 } s m args below meth c 0 0 D A (Qei below D cA A args s 0 0 (tapehW cA h) (Ztapeh) X) 4 X (xX3_readInto_j78 M13 x4) (tapehW cA h M13) 78 [(0, .ref (h 0)), (1, .ref (h 3)), (2, .int x4)] [] := by
              intro M13 hz13
              unfold xX3_readInto_j78
              refine g_aload_n C (pc := 78) dX3_readInto_78 1 rfl ?_
              refine g_iload_n C (pc := 79) dX3_readInto_79 2 rfl ?_
              refine g_Vev C (pc := 80) (As := [.int x4]) (kX2_cutTo l D cA T (sh 3 h) (sh 3 M13) x4 ⟨hz13.2.1, hz13.2.2.1, hz13.2.2.2⟩) (v_tapeh_hours_3 cA h M13) gX3_readInto_X2_cutTo rfl ⟨rfl, rfl⟩ ⟨Nat.le_of_ble_eq_true rfl, Nat.le_of_ble_eq_true rfl⟩ ⟨Nat.zero_le _, Nat.zero_le _⟩ rfl (Nat.le_of_ble_eq_true rfl) hdV_X2_cutTo 0 rfl rfl rfl dX3_readInto_80 (fun z14 ez14 hz_z14 => ?_)
              refine g_nmW (tapehW cA h) (fun M15 eM15 => ?_)
              have hz15 : (Ztapeh M15) := by rw [eM15]; exact ⟨hz13.1, hz_z14.1, hz_z14.2.1, hz_z14.2.2⟩
              refine g_sipush C (pc := 83) dX3_readInto_83 cS_m2000 ?_
              refine g_aload_n C (pc := 86) dX3_readInto_86 0 rfl ?_
              refine g_get C (pc := 87) inX3_readInto_3 rfl 2 (by decide) (List.mem_of_getElem? (i := 5) rfl) dX3_readInto_87 0 rfl (.int (M15 0 2)) rfl ?_
              refine g_isub C (pc := 90) dX3_readInto_90 ?_
              exact r_ei C rfl dX3_readInto_91 hz15
            refine g_if_eq C (pc := 52) 78 dX3_readInto_52 (by decide) (fun c16 => ?_) (fun c16 => ?_)
            · refine g_sub [0, 1, 2] rfl ?_
              exact J78 M12 hz12
            · refine g_aload_n C (pc := 55) dX3_readInto_55 0 rfl ?_
              refine g_get C (pc := 56) inX3_readInto_3 rfl 3 (by decide) (List.mem_of_getElem? (i := 3) rfl) dX3_readInto_56 0 rfl (.int (M12 0 3)) rfl ?_
              refine g_aload_n C (pc := 59) dX3_readInto_59 0 rfl ?_
              refine g_get C (pc := 60) inX3_readInto_3 rfl 5 (by decide) (List.mem_of_getElem? (i := 4) rfl) dX3_readInto_60 0 rfl (.int (M12 0 5)) rfl ?_
              refine g_SNpi C (pc := 63) (As := [.int (M12 0 3), .int (M12 0 5)]) (kX4_isInRange l D cA T (M12 0 3) (M12 0 5)) (v_none (tapehW cA h M12) 10 rfl rfl) gX3_readInto_X4_isInRange_n50 (C.2.2.2.2.2.2.2.2.2.2.2.2.2.2.2.2) (List.mem_of_getElem? (i := 50) rfl) (List.mem_of_getElem? (i := 49) rfl) rfl ⟨rfl, rfl⟩ ⟨Nat.le_of_ble_eq_true rfl, Nat.le_of_ble_eq_true rfl⟩ ⟨Nat.zero_le _, Nat.zero_le _⟩ rfl (Nat.le_of_ble_eq_true rfl) hdS_X4_isInRange rfl dX3_readInto_63 ?_
              refine g_if_eq C (pc := 66) 78 dX3_readInto_66 (by decide) (fun c17 => ?_) (fun c17 => ?_)
              · refine g_sub [0, 1, 2] rfl ?_
                exact J78 M12 hz12
              · refine g_aload_n C (pc := 69) dX3_readInto_69 1 rfl ?_
                refine g_Vpi C (pc := 70) (As := []) (kX2_size l D cA T (sh 3 h) (sh 3 M12) ⟨hz12.2.1, hz12.2.2.1, hz12.2.2.2⟩) (v_tapeh_hours_3 cA h M12) gX3_readInto_X2_size rfl ⟨rfl, rfl⟩ ⟨Nat.le_of_ble_eq_true rfl, Nat.le_of_ble_eq_true rfl⟩ ⟨Nat.zero_le _, Nat.zero_le _⟩ rfl (Nat.le_of_ble_eq_true rfl) hdV_X2_size 0 rfl rfl rfl dX3_readInto_70 ?_
                refine g_bipush C (pc := 73) dX3_readInto_73 cB_20 ?_
                refine g_icmp_lt C (pc := 75) 92 dX3_readInto_75 (by decide) (fun c18 => ?_) (fun c18 => ?_)
                · refine g_aload_n C (pc := 92) dX3_readInto_92 1 rfl ?_
                  refine g_aload_n C (pc := 93) dX3_readInto_93 0 rfl ?_
                  refine g_get C (pc := 94) inX3_readInto_3 rfl 3 (by decide) (List.mem_of_getElem? (i := 3) rfl) dX3_readInto_94 0 rfl (.int (M12 0 3)) rfl ?_
                  refine g_aload_n C (pc := 97) dX3_readInto_97 0 rfl ?_
                  refine g_get C (pc := 98) inX3_readInto_3 rfl 4 (by decide) (List.mem_of_getElem? (i := 6) rfl) dX3_readInto_98 0 rfl (.int (M12 0 4)) rfl ?_
                  refine g_aload_n C (pc := 101) dX3_readInto_101 0 rfl ?_
                  refine g_get C (pc := 102) inX3_readInto_3 rfl 5 (by decide) (List.mem_of_getElem? (i := 4) rfl) dX3_readInto_102 0 rfl (.int (M12 0 5)) rfl ?_
                  refine g_Vev C (pc := 105) (As := [.int (M12 0 3), .int (M12 0 4), .int (M12 0 5)]) (kX2_add l D cA T (sh 3 h) (sh 3 M12) (M12 0 3) (M12 0 4) (M12 0 5) ⟨hz12.2.1, hz12.2.2.1, hz12.2.2.2⟩) (v_tapeh_hours_3 cA h M12) gX3_readInto_X2_add rfl ⟨rfl, rfl⟩ ⟨Nat.le_of_ble_eq_true rfl, Nat.le_of_ble_eq_true rfl⟩ ⟨Nat.zero_le _, Nat.zero_le _⟩ rfl (Nat.le_of_ble_eq_true rfl) hdV_X2_add 0 rfl rfl rfl dX3_readInto_105 (fun z19 ez19 hz_z19 => ?_)
                  refine g_nmW (tapehW cA h) (fun M20 eM20 => ?_)
                  have hz20 : (Ztapeh M20) := by rw [eM20]; exact ⟨hz12.1, hz_z19.1, hz_z19.2.1, hz_z19.2.2⟩
                  refine g_iincN C (pc := 108) 1 (fun y => [(3, .int y), (0, .ref (h 0)), (1, .ref (h 3)), (2, .int x4)]) dX3_readInto_108 3 rfl cI_1 (by decide) (fun _ => rfl) (fun x21 ex21 => ?_)
                  refine g_goto C (pc := 111) 28 dX3_readInto_111 (by decide) ?_
                  refine g_sub [1, 2, 3, 0] rfl ?_
                  exact ih M20 x21 hz20 (by rw [ex21]; exact lp_dec c9 hmu)
                · refine g_sub [0, 1, 2] rfl ?_
                  exact J78 M12 hz12
    refine g_sub [2, 3, 1, 0] rfl ?_
    exact L28 _ M5 0 hz5 (Nat.lt_succ_self _)
  · refine g_sipush C (pc := 7) dX3_readInto_7 cS_m1000 ?_
    refine g_aload_n C (pc := 10) dX3_readInto_10 0 rfl ?_
    refine g_get C (pc := 11) inX3_readInto_3 rfl 1 (by decide) (List.mem_of_getElem? (i := 1) rfl) dX3_readInto_11 0 rfl (.int (M2 0 1)) rfl ?_
    refine g_isub C (pc := 14) dX3_readInto_14 ?_
    exact r_ei C rfl dX3_readInto_15 hz2
