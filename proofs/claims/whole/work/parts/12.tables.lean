
noncomputable def xX4_numberIn (f : Nat → Int32) (p1 : Int32) : Int32 := if p1 < 0 then (0) else (if 15 ≤ p1 then (0) else ((f p1.toNatClampNeg)))
set_option maxHeartbeats 4000000 in
set_option maxRecDepth 100000 in
theorem kX4_numberIn_FIRST (l : Launch) (D : va_G) (cA : ClassId) (T : Nat × Nat × Nat) (p1 : Int32) : ∀ sz : Nat, Met l yX4_numberIn wsX4_numberIn { frames := 0, cells := 0, slots := 0, locals := 0 } (va_Pc [.ref (T.1), .int p1] (PreW D cA T ([] : va_W) sz)) (va_Qi (fun r (_ : Unit) => r = (xX4_numberIn tFirst p1)) (fun _ => PostW D cA (va_A ([] : va_W) sz) ([] : va_W)) (va_A ([] : va_W) sz)) 0 0 (va_A ([] : va_W) sz) := by
  refine m_pi (cc := cX4_numberIn) (maxL := 2) (own := RX4) (by decide) rfl rfl (Nat.le_of_ble_eq_true rfl) (fun {p e s m args below meth c} A C X => ?_)
  show G p l e { frames := 0, cells := 0, slots := 0, locals := 0 } s m args below meth c 0 0 D A (Qpi below D cA A args s ([] : va_W) X) 2 X (xX4_numberIn tFirst p1) ([] : va_W) 0 [(0, .ref (T.1)), (1, .int p1)] []
  unfold xX4_numberIn
  refine g_iload_n C (pc := 0) dX4_numberIn_0 1 rfl ?_
  refine g_if_lt C (pc := 1) 16 dX4_numberIn_1 (by decide) (fun c1 => ?_) (fun c1 => ?_)
  · refine g_iconst C (pc := 16) dX4_numberIn_16 cI_0 ?_
    exact r_pi C rfl dX4_numberIn_17
  · refine g_iload_n C (pc := 4) dX4_numberIn_4 1 rfl ?_
    refine g_aload_n C (pc := 5) dX4_numberIn_5 0 rfl ?_
    refine g_tlen C (pc := 6) C.2.2.2.2.2.2.2.2.2.1.2 dX4_numberIn_6 15 rfl ?_
    refine g_icmp_ge C (pc := 7) 16 dX4_numberIn_7 (by decide) (fun c2 => ?_) (fun c2 => ?_)
    · refine g_iconst C (pc := 16) dX4_numberIn_16 cI_0 ?_
      exact r_pi C rfl dX4_numberIn_17
    · refine g_aload_n C (pc := 10) dX4_numberIn_10 0 rfl ?_
      refine g_iload_n C (pc := 11) dX4_numberIn_11 1 rfl ?_
      refine g_ti C (pc := 12) C.2.2.2.2.2.2.2.2.2.1.2 dX4_numberIn_12 (tb_in c1 c2) (.int (tFirst p1.toNatClampNeg)) rfl ?_
      refine g_goto C (pc := 13) 17 dX4_numberIn_13 (by decide) ?_
      exact r_pi C rfl dX4_numberIn_17
set_option maxHeartbeats 4000000 in
set_option maxRecDepth 100000 in
theorem kX4_numberIn_LEAST (l : Launch) (D : va_G) (cA : ClassId) (T : Nat × Nat × Nat) (p1 : Int32) : ∀ sz : Nat, Met l yX4_numberIn wsX4_numberIn { frames := 0, cells := 0, slots := 0, locals := 0 } (va_Pc [.ref (T.2.1), .int p1] (PreW D cA T ([] : va_W) sz)) (va_Qi (fun r (_ : Unit) => r = (xX4_numberIn tLeast p1)) (fun _ => PostW D cA (va_A ([] : va_W) sz) ([] : va_W)) (va_A ([] : va_W) sz)) 0 0 (va_A ([] : va_W) sz) := by
  refine m_pi (cc := cX4_numberIn) (maxL := 2) (own := RX4) (by decide) rfl rfl (Nat.le_of_ble_eq_true rfl) (fun {p e s m args below meth c} A C X => ?_)
  show G p l e { frames := 0, cells := 0, slots := 0, locals := 0 } s m args below meth c 0 0 D A (Qpi below D cA A args s ([] : va_W) X) 2 X (xX4_numberIn tLeast p1) ([] : va_W) 0 [(0, .ref (T.2.1)), (1, .int p1)] []
  unfold xX4_numberIn
  refine g_iload_n C (pc := 0) dX4_numberIn_0 1 rfl ?_
  refine g_if_lt C (pc := 1) 16 dX4_numberIn_1 (by decide) (fun c1 => ?_) (fun c1 => ?_)
  · refine g_iconst C (pc := 16) dX4_numberIn_16 cI_0 ?_
    exact r_pi C rfl dX4_numberIn_17
  · refine g_iload_n C (pc := 4) dX4_numberIn_4 1 rfl ?_
    refine g_aload_n C (pc := 5) dX4_numberIn_5 0 rfl ?_
    refine g_tlen C (pc := 6) C.2.2.2.2.2.2.2.2.2.2.1.2 dX4_numberIn_6 15 rfl ?_
    refine g_icmp_ge C (pc := 7) 16 dX4_numberIn_7 (by decide) (fun c2 => ?_) (fun c2 => ?_)
    · refine g_iconst C (pc := 16) dX4_numberIn_16 cI_0 ?_
      exact r_pi C rfl dX4_numberIn_17
    · refine g_aload_n C (pc := 10) dX4_numberIn_10 0 rfl ?_
      refine g_iload_n C (pc := 11) dX4_numberIn_11 1 rfl ?_
      refine g_ti C (pc := 12) C.2.2.2.2.2.2.2.2.2.2.1.2 dX4_numberIn_12 (tb_in c1 c2) (.int (tLeast p1.toNatClampNeg)) rfl ?_
      refine g_goto C (pc := 13) 17 dX4_numberIn_13 (by decide) ?_
      exact r_pi C rfl dX4_numberIn_17
set_option maxHeartbeats 4000000 in
set_option maxRecDepth 100000 in
theorem kX4_numberIn_GREATEST (l : Launch) (D : va_G) (cA : ClassId) (T : Nat × Nat × Nat) (p1 : Int32) : ∀ sz : Nat, Met l yX4_numberIn wsX4_numberIn { frames := 0, cells := 0, slots := 0, locals := 0 } (va_Pc [.ref (T.2.2), .int p1] (PreW D cA T ([] : va_W) sz)) (va_Qi (fun r (_ : Unit) => r = (xX4_numberIn tGreat p1)) (fun _ => PostW D cA (va_A ([] : va_W) sz) ([] : va_W)) (va_A ([] : va_W) sz)) 0 0 (va_A ([] : va_W) sz) := by
  refine m_pi (cc := cX4_numberIn) (maxL := 2) (own := RX4) (by decide) rfl rfl (Nat.le_of_ble_eq_true rfl) (fun {p e s m args below meth c} A C X => ?_)
  show G p l e { frames := 0, cells := 0, slots := 0, locals := 0 } s m args below meth c 0 0 D A (Qpi below D cA A args s ([] : va_W) X) 2 X (xX4_numberIn tGreat p1) ([] : va_W) 0 [(0, .ref (T.2.2)), (1, .int p1)] []
  unfold xX4_numberIn
  refine g_iload_n C (pc := 0) dX4_numberIn_0 1 rfl ?_
  refine g_if_lt C (pc := 1) 16 dX4_numberIn_1 (by decide) (fun c1 => ?_) (fun c1 => ?_)
  · refine g_iconst C (pc := 16) dX4_numberIn_16 cI_0 ?_
    exact r_pi C rfl dX4_numberIn_17
  · refine g_iload_n C (pc := 4) dX4_numberIn_4 1 rfl ?_
    refine g_aload_n C (pc := 5) dX4_numberIn_5 0 rfl ?_
    refine g_tlen C (pc := 6) C.2.2.2.2.2.2.2.2.2.2.2.1.2 dX4_numberIn_6 15 rfl ?_
    refine g_icmp_ge C (pc := 7) 16 dX4_numberIn_7 (by decide) (fun c2 => ?_) (fun c2 => ?_)
    · refine g_iconst C (pc := 16) dX4_numberIn_16 cI_0 ?_
      exact r_pi C rfl dX4_numberIn_17
    · refine g_aload_n C (pc := 10) dX4_numberIn_10 0 rfl ?_
      refine g_iload_n C (pc := 11) dX4_numberIn_11 1 rfl ?_
      refine g_ti C (pc := 12) C.2.2.2.2.2.2.2.2.2.2.2.1.2 dX4_numberIn_12 (tb_in c1 c2) (.int (tGreat p1.toNatClampNeg)) rfl ?_
      refine g_goto C (pc := 13) 17 dX4_numberIn_13 (by decide) ?_
      exact r_pi C rfl dX4_numberIn_17

noncomputable def xX4_isInRange (p0 : Int32) (p1 : Int32) : Int32 := if p1 < (xX4_numberIn tLeast p0) then (0) else (if (xX4_numberIn tGreat p0) < p1 then (0) else (1))
set_option maxHeartbeats 4000000 in
set_option maxRecDepth 100000 in
theorem kX4_isInRange (l : Launch) (D : va_G) (cA : ClassId) (T : Nat × Nat × Nat) (p0 : Int32) (p1 : Int32) : ∀ sz : Nat, Met l yX4_isInRange wsX4_isInRange { frames := 1, cells := 0, slots := 0, locals := 21 } (va_Pc [.int p0, .int p1] (PreW D cA T ([] : va_W) sz)) (va_Qi (fun r (_ : Unit) => r = (xX4_isInRange p0 p1)) (fun _ => PostW D cA (va_A ([] : va_W) sz) ([] : va_W)) (va_A ([] : va_W) sz)) 0 0 (va_A ([] : va_W) sz) := by
  refine m_pi (cc := cX4_isInRange) (maxL := 2) (own := RX4) (by decide) rfl rfl (Nat.le_of_ble_eq_true rfl) (fun {p e s m args below meth c} A C X => ?_)
  show G p l e { frames := 1, cells := 0, slots := 0, locals := 21 } s m args below meth c 0 0 D A (Qpi below D cA A args s ([] : va_W) X) 2 X (xX4_isInRange p0 p1) ([] : va_W) 0 [(0, .int p0), (1, .int p1)] []
  unfold xX4_isInRange
  refine g_iload_n C (pc := 0) dX4_isInRange_0 1 rfl ?_
  refine g_gets C (pc := 1) (n := "LEAST") C.2.2.2.2.2.2.2.2.2.2.1.1 (List.mem_of_getElem? (i := 1) rfl) dX4_isInRange_1 ?_
  refine g_iload_n C (pc := 4) dX4_isInRange_4 0 rfl ?_
  refine g_Spi C (pc := 5) (As := [.ref (T.2.1), .int p0]) (kX4_numberIn_LEAST l D cA T p0) (v_none ([] : va_W) 0 rfl rfl) gX4_isInRange_X4_numberIn rfl ⟨rfl, rfl⟩ ⟨Nat.le_of_ble_eq_true rfl, Nat.le_of_ble_eq_true rfl⟩ ⟨Nat.zero_le _, Nat.zero_le _⟩ rfl (Nat.le_of_ble_eq_true rfl) hdS_X4_numberIn rfl dX4_isInRange_5 ?_
  refine g_icmp_lt C (pc := 8) 26 dX4_isInRange_8 (by decide) (fun c1 => ?_) (fun c1 => ?_)
  · refine g_iconst C (pc := 26) dX4_isInRange_26 cI_0 ?_
    exact r_pz C rfl (rfl) dX4_isInRange_27
  · refine g_iload_n C (pc := 11) dX4_isInRange_11 1 rfl ?_
    refine g_gets C (pc := 12) (n := "GREATEST") C.2.2.2.2.2.2.2.2.2.2.2.1.1 (List.mem_of_getElem? (i := 2) rfl) dX4_isInRange_12 ?_
    refine g_iload_n C (pc := 15) dX4_isInRange_15 0 rfl ?_
    refine g_Spi C (pc := 16) (As := [.ref (T.2.2), .int p0]) (kX4_numberIn_GREATEST l D cA T p0) (v_none ([] : va_W) 0 rfl rfl) gX4_isInRange_X4_numberIn rfl ⟨rfl, rfl⟩ ⟨Nat.le_of_ble_eq_true rfl, Nat.le_of_ble_eq_true rfl⟩ ⟨Nat.zero_le _, Nat.zero_le _⟩ rfl (Nat.le_of_ble_eq_true rfl) hdS_X4_numberIn rfl dX4_isInRange_16 ?_
    refine g_icmp_gt C (pc := 19) 26 dX4_isInRange_19 (by decide) (fun c2 => ?_) (fun c2 => ?_)
    · refine g_iconst C (pc := 26) dX4_isInRange_26 cI_0 ?_
      exact r_pz C rfl (rfl) dX4_isInRange_27
    · refine g_iconst C (pc := 22) dX4_isInRange_22 cI_1 ?_
      refine g_goto C (pc := 23) 27 dX4_isInRange_23 (by decide) ?_
      exact r_pz C rfl (rfl) dX4_isInRange_27

noncomputable def xX4_commonDivisor_l7 : Nat → Int32 → Int32 → Int32 → Int32
  | 0, _, _, _ => (0)
  | k + 1, v1, v2, v3 => if 100 ≤ v3 then (v1) else (if v2 = 0 then (v1) else (nm ((v1 - v1 / v2 * v2) : Int32) fun x6 => nm (v3 + 1 : Int32) fun x7 => xX4_commonDivisor_l7 k v2 x6 x7))
noncomputable def xX4_commonDivisor (p0 : Int32) (p1 : Int32) : Int32 := xX4_commonDivisor_l7 (mu 0 100 + 1) p0 p1 0
set_option maxHeartbeats 4000000 in
set_option maxRecDepth 100000 in
theorem kX4_commonDivisor (l : Launch) (D : va_G) (cA : ClassId) (T : Nat × Nat × Nat) (p0 : Int32) (p1 : Int32) : ∀ sz : Nat, Met l yX4_commonDivisor wsX4_commonDivisor { frames := 0, cells := 0, slots := 0, locals := 0 } (va_Pc [.int p0, .int p1] (PreW D cA T ([] : va_W) sz)) (va_Qi (fun r (_ : Unit) => r = (xX4_commonDivisor p0 p1)) (fun _ => PostW D cA (va_A ([] : va_W) sz) ([] : va_W)) (va_A ([] : va_W) sz)) 0 0 (va_A ([] : va_W) sz) := by
  refine m_pi (cc := cX4_commonDivisor) (maxL := 6) (own := RX4) (by decide) rfl rfl (Nat.le_of_ble_eq_true rfl) (fun {p e s m args below meth c} A C X => ?_)
  show G p l e { frames := 0, cells := 0, slots := 0, locals := 0 } s m args below meth c 0 0 D A (Qpi below D cA A args s ([] : va_W) X) 6 X (xX4_commonDivisor p0 p1) ([] : va_W) 0 [(0, .int p0), (1, .int p1)] []
  unfold xX4_commonDivisor
  refine g_iload_n C (pc := 0) dX4_commonDivisor_0 0 rfl ?_
  refine g_istore_n C (pc := 1) [(2, .int p0), (0, .int p0), (1, .int p1)] dX4_commonDivisor_1 (by decide) rfl ?_
  refine g_iload_n C (pc := 2) dX4_commonDivisor_2 2 rfl ?_
  refine g_istore_n C (pc := 3) [(3, .int p1), (2, .int p0), (0, .int p0), (1, .int p1)] dX4_commonDivisor_3 (by decide) rfl ?_
  refine g_iconst C (pc := 4) dX4_commonDivisor_4 cI_0 ?_
  refine g_istore C (pc := 5) [(4, .int 0), (3, .int p1), (2, .int p0), (0, .int p0), (1, .int p1)] dX4_commonDivisor_5 (by decide) rfl ?_
  have L7 : ∀ (k : Nat) (v1 : Int32) (v2 : Int32) (v3 : Int32), mu v3 100 < k → G p l e { frames := 0, cells := 0, slots := 0, locals := 0 } s m args below meth c 0 0 D A (Qpi below D cA A args s ([] : va_W) X) 6 X (xX4_commonDivisor_l7 k v1 v2 v3) ([] : va_W) 7 [(2, .int v1), (3, .int v2), (4, .int v3)] [] := by
    intro k
    induction k with
    | zero => intro v1 v2 v3 hmu; exact absurd hmu (Nat.not_lt_zero _)
    | succ k ih =>
      intro v1 v2 v3 hmu
      rw [xX4_commonDivisor_l7]
      refine g_iload C (pc := 7) dX4_commonDivisor_7 2 rfl ?_
      refine g_bipush C (pc := 9) dX4_commonDivisor_9 cB_100 ?_
      refine g_icmp_ge C (pc := 11) 34 dX4_commonDivisor_11 (by decide) (fun c4 => ?_) (fun c4 => ?_)
      · refine g_iload_n C (pc := 34) dX4_commonDivisor_34 0 rfl ?_
        exact r_pi C rfl dX4_commonDivisor_35
      · refine g_iload_n C (pc := 14) dX4_commonDivisor_14 1 rfl ?_
        refine g_if_eq C (pc := 15) 34 dX4_commonDivisor_15 (by decide) (fun c5 => ?_) (fun c5 => ?_)
        · refine g_iload_n C (pc := 34) dX4_commonDivisor_34 0 rfl ?_
          exact r_pi C rfl dX4_commonDivisor_35
        · refine g_iload_n C (pc := 18) dX4_commonDivisor_18 0 rfl ?_
          refine g_iload_n C (pc := 19) dX4_commonDivisor_19 1 rfl ?_
          refine g_irem C (pc := 20) dX4_commonDivisor_20 c5 ?_
          refine g_nmi (fun x6 ex6 => ?_)
          refine g_istore C (pc := 21) [(5, .int x6), (2, .int v1), (3, .int v2), (4, .int v3)] dX4_commonDivisor_21 (by decide) rfl ?_
          refine g_iload_n C (pc := 23) dX4_commonDivisor_23 2 rfl ?_
          refine g_istore_n C (pc := 24) [(2, .int v2), (5, .int x6), (3, .int v2), (4, .int v3)] dX4_commonDivisor_24 (by decide) rfl ?_
          refine g_iload C (pc := 25) dX4_commonDivisor_25 1 rfl ?_
          refine g_istore_n C (pc := 27) [(3, .int x6), (2, .int v2), (5, .int x6), (4, .int v3)] dX4_commonDivisor_27 (by decide) rfl ?_
          refine g_iincN C (pc := 28) 1 (fun y => [(4, .int y), (3, .int x6), (2, .int v2), (5, .int x6)]) dX4_commonDivisor_28 3 rfl cI_1 (by decide) (fun _ => rfl) (fun x7 ex7 => ?_)
          refine g_goto C (pc := 31) 7 dX4_commonDivisor_31 (by decide) ?_
          refine g_sub [2, 1, 0] rfl ?_
          exact ih v2 x6 x7 (by rw [ex7]; exact lp_dec c4 hmu)
  refine g_sub [2, 1, 0] rfl ?_
  exact L7 _ p0 p1 0 (Nat.lt_succ_self _)

noncomputable def xJ6_bitCount_0f7a4 (p0 : Int32) : Int32 := nm ((p0 - ((((p0).toUInt32 >>> ((1 : Int32).toUInt32 &&& Int32.toUInt32 31)).toInt32) &&& 1431655765)) : Int32) fun x1 => nm (((x1 &&& 858993459) + ((((x1).toUInt32 >>> ((2 : Int32).toUInt32 &&& Int32.toUInt32 31)).toInt32) &&& 858993459)) : Int32) fun x2 => nm (((x2 + (((x2).toUInt32 >>> ((4 : Int32).toUInt32 &&& Int32.toUInt32 31)).toInt32)) &&& 252645135) : Int32) fun x3 => nm ((x3 + (((x3).toUInt32 >>> ((8 : Int32).toUInt32 &&& Int32.toUInt32 31)).toInt32)) : Int32) fun x4 => nm ((x4 + (((x4).toUInt32 >>> ((16 : Int32).toUInt32 &&& Int32.toUInt32 31)).toInt32)) : Int32) fun x5 => (x5 &&& 63)
set_option maxHeartbeats 4000000 in
set_option maxRecDepth 100000 in
theorem kJ6_bitCount_0f7a4 (l : Launch) (D : va_G) (cA : ClassId) (T : Nat × Nat × Nat) (p0 : Int32) : ∀ sz : Nat, Met l yJ6_bitCount_0f7a4 wsJ6_bitCount_0f7a4 { frames := 0, cells := 0, slots := 0, locals := 0 } (va_Pc [.int p0] (PreW D cA T ([] : va_W) sz)) (va_Qi (fun r (_ : Unit) => r = (xJ6_bitCount_0f7a4 p0)) (fun _ => PostW D cA (va_A ([] : va_W) sz) ([] : va_W)) (va_A ([] : va_W) sz)) 0 0 (va_A ([] : va_W) sz) := by
  refine m_pi (cc := cJ6_bitCount_0f7a4) (maxL := 1) (own := RJ6) (by decide) rfl rfl (Nat.le_of_ble_eq_true rfl) (fun {p e s m args below meth c} A C X => ?_)
  show G p l e { frames := 0, cells := 0, slots := 0, locals := 0 } s m args below meth c 0 0 D A (Qpi below D cA A args s ([] : va_W) X) 1 X (xJ6_bitCount_0f7a4 p0) ([] : va_W) 0 [(0, .int p0)] []
  unfold xJ6_bitCount_0f7a4
  refine g_iload_n C (pc := 0) dJ6_bitCount_0f7a4_0 0 rfl ?_
  refine g_iload_n C (pc := 1) dJ6_bitCount_0f7a4_1 0 rfl ?_
  refine g_iconst C (pc := 2) dJ6_bitCount_0f7a4_2 cI_1 ?_
  refine g_iushr C (pc := 3) dJ6_bitCount_0f7a4_3 rfl ?_
  refine g_ldcw C (pc := 4) (v := 1431655765) dJ6_bitCount_0f7a4_4 (List.mem_of_getElem? (i := 1) rfl) ?_
  refine g_iand C (pc := 7) dJ6_bitCount_0f7a4_7 ?_
  refine g_isub C (pc := 8) dJ6_bitCount_0f7a4_8 ?_
  refine g_nmi (fun x1 ex1 => ?_)
  refine g_istore_n C (pc := 9) [(0, .int x1)] dJ6_bitCount_0f7a4_9 (by decide) rfl ?_
  refine g_iload_n C (pc := 10) dJ6_bitCount_0f7a4_10 0 rfl ?_
  refine g_ldcw C (pc := 11) (v := 858993459) dJ6_bitCount_0f7a4_11 (List.mem_of_getElem? (i := 2) rfl) ?_
  refine g_iand C (pc := 14) dJ6_bitCount_0f7a4_14 ?_
  refine g_iload_n C (pc := 15) dJ6_bitCount_0f7a4_15 0 rfl ?_
  refine g_iconst C (pc := 16) dJ6_bitCount_0f7a4_16 cI_2 ?_
  refine g_iushr C (pc := 17) dJ6_bitCount_0f7a4_17 rfl ?_
  refine g_ldcw C (pc := 18) (v := 858993459) dJ6_bitCount_0f7a4_18 (List.mem_of_getElem? (i := 2) rfl) ?_
  refine g_iand C (pc := 21) dJ6_bitCount_0f7a4_21 ?_
  refine g_iadd C (pc := 22) dJ6_bitCount_0f7a4_22 ?_
  refine g_nmi (fun x2 ex2 => ?_)
  refine g_istore_n C (pc := 23) [(0, .int x2)] dJ6_bitCount_0f7a4_23 (by decide) rfl ?_
  refine g_iload_n C (pc := 24) dJ6_bitCount_0f7a4_24 0 rfl ?_
  refine g_iload_n C (pc := 25) dJ6_bitCount_0f7a4_25 0 rfl ?_
  refine g_iconst C (pc := 26) dJ6_bitCount_0f7a4_26 cI_4 ?_
  refine g_iushr C (pc := 27) dJ6_bitCount_0f7a4_27 rfl ?_
  refine g_iadd C (pc := 28) dJ6_bitCount_0f7a4_28 ?_
  refine g_ldcw C (pc := 29) (v := 252645135) dJ6_bitCount_0f7a4_29 (List.mem_of_getElem? (i := 3) rfl) ?_
  refine g_iand C (pc := 32) dJ6_bitCount_0f7a4_32 ?_
  refine g_nmi (fun x3 ex3 => ?_)
  refine g_istore_n C (pc := 33) [(0, .int x3)] dJ6_bitCount_0f7a4_33 (by decide) rfl ?_
  refine g_iload_n C (pc := 34) dJ6_bitCount_0f7a4_34 0 rfl ?_
  refine g_iload_n C (pc := 35) dJ6_bitCount_0f7a4_35 0 rfl ?_
  refine g_bipush C (pc := 36) dJ6_bitCount_0f7a4_36 cB_8 ?_
  refine g_iushr C (pc := 38) dJ6_bitCount_0f7a4_38 rfl ?_
  refine g_iadd C (pc := 39) dJ6_bitCount_0f7a4_39 ?_
  refine g_nmi (fun x4 ex4 => ?_)
  refine g_istore_n C (pc := 40) [(0, .int x4)] dJ6_bitCount_0f7a4_40 (by decide) rfl ?_
  refine g_iload_n C (pc := 41) dJ6_bitCount_0f7a4_41 0 rfl ?_
  refine g_iload_n C (pc := 42) dJ6_bitCount_0f7a4_42 0 rfl ?_
  refine g_bipush C (pc := 43) dJ6_bitCount_0f7a4_43 cB_16 ?_
  refine g_iushr C (pc := 45) dJ6_bitCount_0f7a4_45 rfl ?_
  refine g_iadd C (pc := 46) dJ6_bitCount_0f7a4_46 ?_
  refine g_nmi (fun x5 ex5 => ?_)
  refine g_istore_n C (pc := 47) [(0, .int x5)] dJ6_bitCount_0f7a4_47 (by decide) rfl ?_
  refine g_iload_n C (pc := 48) dJ6_bitCount_0f7a4_48 0 rfl ?_
  refine g_bipush C (pc := 49) dJ6_bitCount_0f7a4_49 cB_63 ?_
  refine g_iand C (pc := 51) dJ6_bitCount_0f7a4_51 ?_
  exact r_pi C rfl dJ6_bitCount_0f7a4_52
