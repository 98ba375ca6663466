theorem inX5_feed_5 : ∀ w ∈ u_ws RX5 TX5 14, w ∈ wsX5_feed := by decide +kernel
noncomputable def xX5_feed_j29 (M2 : St) : Int32 × St := nm (xX5_refuse M2 (-6)) fun z3 => nm (z3.2) fun M4 => (z3.1, M4)
noncomputable def xX5_feed_l39 : Nat → St → Int32 → Int64 → Int32 → Int32 × St
  | 0, M8, _, _, _ => (0, M8)
  | k + 1, M8, p0, p1, v7 => if p0 ≤ v7 then ((M8 0 10, M8)) else (nm (sa M8 7 (up (M8 7) ((M8 0 10 : Int32).toNatClampNeg) ((((p1 >>> (((8 * v7) : Int32).toInt64 &&& 63)) &&& 255) : Int64).toInt32))) fun M10 => nm (sa M10 0 (up (M10 0) 10 (M10 0 10 + 1))) fun M11 => nm (v7 + 1 : Int32) fun x12 => xX5_feed_l39 k M11 p0 p1 x12)
noncomputable def xX5_feed (M : St) (p0 : Int32) (p1 : Int64) : Int32 × St := if 1 ≤ p0 then (if 8 < p0 then (xX5_feed_j29 M ) else (if (M 0 10 + p0) ≤ 64 then (xX5_feed_l39 (mu 0 p0 + 1) M p0 p1 0) else (xX5_feed_j29 M ))) else (nm (xX5_refuse M (-4)) fun z13 => nm (z13.2) fun M14 => (z13.1, M14))
set_option maxHeartbeats 4000000 in
set_option maxRecDepth 100000 in
theorem kX5_feed (l : Launch) (D : va_G) (cA : ClassId) (T : Nat × Nat × Nat) (h : Nat → Nat) (M : St) (p0 : Int32) (p1 : Int64) (hz : (Zmod M)) : ∀ sz : Nat, Met l yX5_feed wsX5_feed { frames := 1, cells := 0, slots := 0, locals := 21 } (va_Pc [.ref (h 0), .int p0, .long p1] (PreW D cA T (modW cA h M) sz)) (va_Qi (fun r u => (r, u) = (xX5_feed M p0 p1) ∧ (Zmod) u) (fun u => PostW D cA (va_A (modW cA h M) sz) (modW cA h u)) (va_A (modW cA h M) sz)) 0 0 (va_A (modW cA h M) sz) := by
  refine m_ei (Wf := modW cA h) (inv := (Zmod)) (cc := cX5_feed) (maxL := 5) (own := RX5) (by decide) rfl rfl (Nat.le_of_ble_eq_true rfl) (fun {p e s m args below meth c} A C X => ?_)
  show G p l e { frames := 1, cells := 0, slots := 0, locals := 21 } s m args below meth c 0 0 D A (Qei below D cA A args s 0 0 (modW cA h) (Zmod) X) 5 X (xX5_feed M p0 p1) (modW cA h M) 0 [(0, .ref (h 0)), (1, .int p0), (2, .long p1)] []
  unfold xX5_feed
  refine g_iload_n C (pc := 0) dX5_feed_0 1 rfl ?_
  refine g_iconst C (pc := 1) dX5_feed_1 cI_1 ?_
  refine g_icmp_ge C (pc := 2) 12 dX5_feed_2 (by decide) (fun c1 => ?_) (fun c1 => ?_)
  · refine g_iload_n C (pc := 12) dX5_feed_12 1 rfl ?_
    refine g_bipush C (pc := 13) dX5_feed_13 cB_8 ?_
    have J29 : ∀ (M2 : St), (Zmod M2) → G p l e { frames := 1, cells := 0, slots := 0, locals := 21 } s m args below meth c 0 0 D A (Qei below D cA A args s 0 0 (modW cA h) (Zmod) X) 5 X (xX5_feed_j29 M2 ) (modW cA h M2) 29 [(0, .ref (h 0))] [] := by
      intro M2 hz2
      unfold xX5_feed_j29
      refine g_aload_n C (pc := 29) dX5_feed_29 0 rfl ?_
      refine g_bipush C (pc := 30) dX5_feed_30 cB_m6 ?_
      refine g_Vei C (pc := 32) (As := [.int (-6)]) (kX5_refuse l D cA T h M2 (-6) hz2 rf_m6) (v_id (modW cA h) M2 10 (fun _ => rfl) rfl) gX5_feed_X5_refuse rfl ⟨rfl, rfl⟩ ⟨Nat.le_of_ble_eq_true rfl, Nat.le_of_ble_eq_true rfl⟩ ⟨Nat.zero_le _, Nat.zero_le _⟩ rfl (Nat.le_of_ble_eq_true rfl) hdV_X5_refuse 0 rfl rfl rfl dX5_feed_32 (fun z3 ez3 hz_z3 => ?_)
      refine g_nmW (modW cA h) (fun M4 eM4 => ?_)
      have hz4 : (Zmod M4) := by rw [eM4]; exact hz_z3
      exact r_ei C rfl dX5_feed_35 hz4
    refine g_icmp_gt C (pc := 15) 29 dX5_feed_15 (by decide) (fun c5 => ?_) (fun c5 => ?_)
    · refine g_sub [0] rfl ?_
      exact J29 M hz
    · refine g_aload_n C (pc := 18) dX5_feed_18 0 rfl ?_
      refine g_get C (pc := 19) inX5_feed_5 rfl 10 (by decide) (List.mem_of_getElem? (i := 1) rfl) dX5_feed_19 0 rfl (.int (M 0 10)) rfl ?_
      refine g_iload_n C (pc := 22) dX5_feed_22 1 rfl ?_
      refine g_iadd C (pc := 23) dX5_feed_23 ?_
      refine g_bipush C (pc := 24) dX5_feed_24 cB_64 ?_
      refine g_icmp_le C (pc := 26) 36 dX5_feed_26 (by decide) (fun c6 => ?_) (fun c6 => ?_)
      · refine g_iconst C (pc := 36) dX5_feed_36 cI_0 ?_
        refine g_istore C (pc := 37) [(4, .int 0), (0, .ref (h 0)), (1, .int p0), (2, .long p1)] dX5_feed_37 (by decide) rfl ?_
        have L39 : ∀ (k : Nat) (M8 : St) (v7 : Int32), (Zmod M8) → (M8 0 10).toInt + p0.toInt ≤ 64 + (v7 : Int32).toInt → mu v7 p0 < k → G p l e { frames := 1, cells := 0, slots := 0, locals := 21 } s m args below meth c 0 0 D A (Qei below D cA A args s 0 0 (modW cA h) (Zmod) X) 5 X (xX5_feed_l39 k M8 p0 p1 v7) (modW cA h M8) 39 [(0, .ref (h 0)), (1, .int p0), (2, .long p1), (4, .int v7)] [] := by
          intro k
          induction k with
          | zero => intro M8 v7 hz8 hf hmu; exact absurd hmu (Nat.not_lt_zero _)
          | succ k ih =>
            intro M8 v7 hz8 hf hmu
            rw [xX5_feed_l39]
            refine g_iload C (pc := 39) dX5_feed_39 3 rfl ?_
            refine g_iload_n C (pc := 41) dX5_feed_41 1 rfl ?_
            refine g_icmp_ge C (pc := 42) 82 dX5_feed_42 (by decide) (fun c9 => ?_) (fun c9 => ?_)
            · refine g_aload_n C (pc := 82) dX5_feed_82 0 rfl ?_
              refine g_get C (pc := 83) inX5_feed_5 rfl 10 (by decide) (List.mem_of_getElem? (i := 1) rfl) dX5_feed_83 0 rfl (.int (M8 0 10)) rfl ?_
              exact r_ei C rfl dX5_feed_86 hz8
            · refine g_aload_n C (pc := 45) dX5_feed_45 0 rfl ?_
              refine g_get C (pc := 46) inX5_feed_5 rfl 8 (by decide) (List.mem_of_getElem? (i := 2) rfl) dX5_feed_46 0 rfl (.ref (h 7)) rfl ?_
              refine g_aload_n C (pc := 49) dX5_feed_49 0 rfl ?_
              refine g_get C (pc := 50) inX5_feed_5 rfl 10 (by decide) (List.mem_of_getElem? (i := 1) rfl) dX5_feed_50 0 rfl (.int (M8 0 10)) rfl ?_
              refine g_lload_n C (pc := 53) dX5_feed_53 2 rfl ?_
              refine g_bipush C (pc := 54) dX5_feed_54 cB_8 ?_
              refine g_iload C (pc := 56) dX5_feed_56 3 rfl ?_
              refine g_imul C (pc := 58) dX5_feed_58 ?_
              refine g_lshr C (pc := 59) dX5_feed_59 rfl ?_
              refine g_ldc2 C (pc := 60) (v := 255) dX5_feed_60 (List.mem_of_getElem? (i := 3) rfl) ?_
              refine g_land C (pc := 63) dX5_feed_63 ?_
              refine g_l2i C (pc := 64) dX5_feed_64 rfl ?_
              refine g_iast C (pc := 65) dX5_feed_65 7 rfl (fd_in hz8 hf c9) ((M8 0 10 : Int32).toNatClampNeg) rfl (modW cA h) (sa M8 7 (up (M8 7) ((M8 0 10 : Int32).toNatClampNeg) ((((p1 >>> (((8 * v7) : Int32).toInt64 &&& 63)) &&& 255) : Int64).toInt32))) rfl (fun M10 eM10 => ?_)
              have hz10 : (Zmod M10) := by rw [eM10]; exact hz8
              refine g_aload_n C (pc := 66) dX5_feed_66 0 rfl ?_
              refine g_dup C (pc := 67) dX5_feed_67 rfl ?_
              refine g_get C (pc := 68) inX5_feed_5 rfl 10 (by decide) (List.mem_of_getElem? (i := 1) rfl) dX5_feed_68 0 rfl (.int (M10 0 10)) rfl ?_
              refine g_iconst C (pc := 71) dX5_feed_71 cI_1 ?_
              refine g_iadd C (pc := 72) dX5_feed_72 ?_
              refine g_put C (pc := 73) tyX5 tyX5_ok nmX5 inX5_feed_5 rfl 10 (by decide) rfl (List.mem_of_getElem? (i := 1) rfl) dX5_feed_73 rfl rfl 0 rfl (Nat.le_of_ble_eq_true rfl) (modW cA h) (sa M10 0 (up (M10 0) 10 (M10 0 10 + 1))) rfl (fun M11 eM11 => ?_)
              have hz11 : (Zmod M11) := (fd_z hz10 (by rw [eM10]; exact hf) c9 eM11).1
              have hd := (fd_z hz10 (by rw [eM10]; exact hf) c9 eM11).2
              rw [eM10] at hd
              refine g_iincN C (pc := 76) 1 (fun y => [(4, .int y), (0, .ref (h 0)), (1, .int p0), (2, .long p1)]) dX5_feed_76 3 rfl cI_1 (by decide) (fun _ => rfl) (fun x12 ex12 => ?_)
              refine g_goto C (pc := 79) 39 dX5_feed_79 (by decide) ?_
              refine g_sub [1, 2, 3, 0] rfl ?_
              exact ih M11 x12 hz11 (fd_k (K := M) hf c9 hd ex12) (by rw [ex12]; exact lp_dec c9 hmu)
        refine g_sub [1, 2, 3, 0] rfl ?_
        exact L39 _ M 0 hz (fd_s hz c1 c5 c6) (Nat.lt_succ_self _)
      · refine g_sub [0] rfl ?_
        exact J29 M hz
  · refine g_aload_n C (pc := 5) dX5_feed_5 0 rfl ?_
    refine g_bipush C (pc := 6) dX5_feed_6 cB_m4 ?_
    refine g_Vei C (pc := 8) (As := [.int (-4)]) (kX5_refuse l D cA T h M (-4) hz rf_m4) (v_id (modW cA h) M 10 (fun _ => rfl) rfl) gX5_feed_X5_refuse rfl ⟨rfl, rfl⟩ ⟨Nat.le_of_ble_eq_true rfl, Nat.le_of_ble_eq_true rfl⟩ ⟨Nat.zero_le _, Nat.zero_le _⟩ rfl (Nat.le_of_ble_eq_true rfl) hdV_X5_refuse 0 rfl rfl rfl dX5_feed_8 (fun z13 ez13 hz_z13 => ?_)
    refine g_nmW (modW cA h) (fun M14 eM14 => ?_)
    have hz14 : (Zmod M14) := by rw [eM14]; exact hz_z13
    exact r_ei C rfl dX5_feed_11 hz14
theorem inX5_becomes_5 : ∀ w ∈ u_ws RX5 TX5 14, w ∈ wsX5_becomes := by decide +kernel
noncomputable def xX5_becomes (M : St) (p0 : Int32) (p1 : Int32) : Int32 × St := nm ((M 2 (p0 : Int32).toNatClampNeg) : Int32) fun x1 => nm (sa M 2 (up (M 2) ((p0 : Int32).toNatClampNeg) p1)) fun M2 => (x1, M2)
set_option maxHeartbeats 4000000 in
set_option maxRecDepth 100000 in
theorem kX5_becomes (l : Launch) (D : va_G) (cA : ClassId) (T : Nat × Nat × Nat) (h : Nat → Nat) (M : St) (p0 : Int32) (p1 : Int32) (hz : (Zmod M)) (hp : vp_in p0 151) (hq : rz (up (M 2) p0.toNatClampNeg p1)) : ∀ sz : Nat, Met l yX5_becomes wsX5_becomes { frames := 0, cells := 0, slots := 0, locals := 0 } (va_Pc [.ref (h 0), .int p0, .int p1] (PreW D cA T (modW cA h M) sz)) (va_Qi (fun r u => (r, u) = (xX5_becomes M p0 p1) ∧ (Zmod) u) (fun u => PostW D cA (va_A (modW cA h M) sz) (modW cA h u)) (va_A (modW cA h M) sz)) 0 0 (va_A (modW cA h M) sz) := by
  refine m_ei (Wf := modW cA h) (inv := (Zmod)) (cc := cX5_becomes) (maxL := 4) (own := RX5) (by decide) rfl rfl (Nat.le_of_ble_eq_true rfl) (fun {p e s m args below meth c} A C X => ?_)
  show G p l e { frames := 0, cells := 0, slots := 0, locals := 0 } s m args below meth c 0 0 D A (Qei below D cA A args s 0 0 (modW cA h) (Zmod) X) 4 X (xX5_becomes M p0 p1) (modW cA h M) 0 [(0, .ref (h 0)), (1, .int p0), (2, .int p1)] []
  unfold xX5_becomes
  refine g_aload_n C (pc := 0) dX5_becomes_0 0 rfl ?_
  refine g_get C (pc := 1) inX5_becomes_5 rfl 1 (by decide) (List.mem_of_getElem? (i := 1) rfl) dX5_becomes_1 0 rfl (.ref (h 2)) rfl ?_
  refine g_iload_n C (pc := 4) dX5_becomes_4 1 rfl ?_
  refine g_iald C (pc := 5) dX5_becomes_5 2 rfl hp (M 2 (p0 : Int32).toNatClampNeg) rfl ?_
  refine g_nmi (fun x1 ex1 => ?_)
  refine g_istore_n C (pc := 6) [(3, .int x1), (0, .ref (h 0)), (1, .int p0), (2, .int p1)] dX5_becomes_6 (by decide) rfl ?_
  refine g_aload_n C (pc := 7) dX5_becomes_7 1 rfl ?_
  refine g_get C (pc := 8) inX5_becomes_5 rfl 1 (by decide) (List.mem_of_getElem? (i := 1) rfl) dX5_becomes_8 0 rfl (.ref (h 2)) rfl ?_
  refine g_iload_n C (pc := 11) dX5_becomes_11 2 rfl ?_
  refine g_iload_n C (pc := 12) dX5_becomes_12 3 rfl ?_
  refine g_iast C (pc := 13) dX5_becomes_13 2 rfl hp ((p0 : Int32).toNatClampNeg) rfl (modW cA h) (sa M 2 (up (M 2) ((p0 : Int32).toNatClampNeg) p1)) rfl (fun M2 eM2 => ?_)
  have hz2 : (Zmod M2) := (bc_z hz hq eM2)
  refine g_iload_n C (pc := 14) dX5_becomes_14 0 rfl ?_
  exact r_ei C rfl dX5_becomes_15 hz2

noncomputable def xX5_set (M : St) (p0 : Int32) (p1 : Int32) : Int32 × St := if (xX5_isIn p0 15) = 0 then (nm (xX5_refuse M (-2)) fun z8 => nm (z8.2) fun M9 => (z8.1, M9)) else (nm ((xX5_within p1 (xX5_leastOf p0) (xX5_mostOf p0)) : Int32) fun x2 => if x2 = 0 then (nm (xX5_becomes M p0 p1) fun z4 => nm (z4.2) fun M5 => (z4.1, M5)) else (nm (xX5_refuse M x2) fun z6 => nm (z6.2) fun M7 => (z6.1, M7)))
set_option maxHeartbeats 4000000 in
set_option maxRecDepth 100000 in
theorem kX5_set (l : Launch) (D : va_G) (cA : ClassId) (T : Nat × Nat × Nat) (h : Nat → Nat) (M : St) (p0 : Int32) (p1 : Int32) (hz : (Zmod M)) : ∀ sz : Nat, Met l yX5_set wsX5_set { frames := 1, cells := 0, slots := 0, locals := 23 } (va_Pc [.ref (h 0), .int p0, .int p1] (PreW D cA T (modW cA h M) sz)) (va_Qi (fun r u => (r, u) = (xX5_set M p0 p1) ∧ (Zmod) u) (fun u => PostW D cA (va_A (modW cA h M) sz) (modW cA h u)) (va_A (modW cA h M) sz)) 0 0 (va_A (modW cA h M) sz) := by
  refine m_ei (Wf := modW cA h) (inv := (Zmod)) (cc := cX5_set) (maxL := 4) (own := RX5) (by decide) rfl rfl (Nat.le_of_ble_eq_true rfl) (fun {p e s m args below meth c} A C X => ?_)
  show G p l e { frames := 1, cells := 0, slots := 0, locals := 23 } s m args below meth c 0 0 D A (Qei below D cA A args s 0 0 (modW cA h) (Zmod) X) 4 X (xX5_set M p0 p1) (modW cA h M) 0 [(0, .ref (h 0)), (1, .int p0), (2, .int p1)] []
  unfold xX5_set
  refine g_iload_n C (pc := 0) dX5_set_0 1 rfl ?_
  refine g_bipush C (pc := 1) dX5_set_1 cB_15 ?_
  refine g_Spi C (pc := 3) (As := [.int p0, .int 15]) (kX5_isIn l D cA T p0 15) (v_none (modW cA h M) 10 rfl rfl) gX5_set_X5_isIn rfl ⟨rfl, rfl⟩ ⟨Nat.le_of_ble_eq_true rfl, Nat.le_of_ble_eq_true rfl⟩ ⟨Nat.zero_le _, Nat.zero_le _⟩ rfl (Nat.le_of_ble_eq_true rfl) hdS_X5_isIn rfl dX5_set_3 ?_
  refine g_if_ne C (pc := 6) 16 dX5_set_6 (by decide) (fun c1 => ?_) (fun c1 => ?_)
  · refine g_iload_n C (pc := 16) dX5_set_16 2 rfl ?_
    refine g_iload_n C (pc := 17) dX5_set_17 1 rfl ?_
    refine g_Spi C (pc := 18) (As := [.int p0]) (kX5_leastOf l D cA T p0) (v_none (modW cA h M) 10 rfl rfl) gX5_set_X5_leastOf rfl ⟨rfl, rfl⟩ ⟨Nat.le_of_ble_eq_true rfl, Nat.le_of_ble_eq_true rfl⟩ ⟨Nat.zero_le _, Nat.zero_le _⟩ rfl (Nat.le_of_ble_eq_true rfl) hdS_X5_leastOf rfl dX5_set_18 ?_
    refine g_iload_n C (pc := 21) dX5_set_21 1 rfl ?_
    refine g_Spi C (pc := 22) (As := [.int p0]) (kX5_mostOf l D cA T p0) (v_none (modW cA h M) 10 rfl rfl) gX5_set_X5_mostOf rfl ⟨rfl, rfl⟩ ⟨Nat.le_of_ble_eq_true rfl, Nat.le_of_ble_eq_true rfl⟩ ⟨Nat.zero_le _, Nat.zero_le _⟩ rfl (Nat.le_of_ble_eq_true rfl) hdS_X5_mostOf rfl dX5_set_22 ?_
    refine g_Spi C (pc := 25) (As := [.int p1, .int (xX5_leastOf p0), .int (xX5_mostOf p0)]) (kX5_within l D cA T p1 (xX5_leastOf p0) (xX5_mostOf p0)) (v_none (modW cA h M) 10 rfl rfl) gX5_set_X5_within rfl ⟨rfl, rfl⟩ ⟨Nat.le_of_ble_eq_true rfl, Nat.le_of_ble_eq_true rfl⟩ ⟨Nat.zero_le _, Nat.zero_le _⟩ rfl (Nat.le_of_ble_eq_true rfl) hdS_X5_within rfl dX5_set_25 ?_
    refine g_nmi (fun x2 ex2 => ?_)
    refine g_istore_n C (pc := 28) [(3, .int x2), (0, .ref (h 0)), (1, .int p0), (2, .int p1)] dX5_set_28 (by decide) rfl ?_
    refine g_iload_n C (pc := 29) dX5_set_29 0 rfl ?_
    refine g_if_eq C (pc := 30) 41 dX5_set_30 (by decide) (fun c3 => ?_) (fun c3 => ?_)
    · refine g_aload_n C (pc := 41) dX5_set_41 1 rfl ?_
      refine g_iload_n C (pc := 42) dX5_set_42 2 rfl ?_
      refine g_iload_n C (pc := 43) dX5_set_43 3 rfl ?_
      refine g_Vei C (pc := 44) (As := [.int p0, .int p1]) (kX5_becomes l D cA T h M p0 p1 hz (set_hp c1) (set_hq hz c1 ex2 c3)) (v_id (modW cA h) M 10 (fun _ => rfl) rfl) gX5_set_X5_becomes rfl ⟨rfl, rfl⟩ ⟨Nat.le_of_ble_eq_true rfl, Nat.le_of_ble_eq_true rfl⟩ ⟨Nat.zero_le _, Nat.zero_le _⟩ rfl (Nat.le_of_ble_eq_true rfl) hdV_X5_becomes 0 rfl rfl rfl dX5_set_44 (fun z4 ez4 hz_z4 => ?_)
      refine g_nmW (modW cA h) (fun M5 eM5 => ?_)
      have hz5 : (Zmod M5) := by rw [eM5]; exact hz_z4
      exact r_ei C rfl dX5_set_47 hz5
    · refine g_aload_n C (pc := 33) dX5_set_33 1 rfl ?_
      refine g_iload_n C (pc := 34) dX5_set_34 0 rfl ?_
      refine g_Vei C (pc := 35) (As := [.int x2]) (kX5_refuse l D cA T h M x2 hz (rf_vp (rf_of (by rw [ex2]; (repeat' split) <;> first | exact rf0_c (by decide) | exact rf0_within _ _ _ | exact rf0_wrongRun _ _ | exact rf0_wrongSorts _ _) c3))) (v_id (modW cA h) M 10 (fun _ => rfl) rfl) gX5_set_X5_refuse rfl ⟨rfl, rfl⟩ ⟨Nat.le_of_ble_eq_true rfl, Nat.le_of_ble_eq_true rfl⟩ ⟨Nat.zero_le _, Nat.zero_le _⟩ rfl (Nat.le_of_ble_eq_true rfl) hdV_X5_refuse 0 rfl rfl rfl dX5_set_35 (fun z6 ez6 hz_z6 => ?_)
      refine g_nmW (modW cA h) (fun M7 eM7 => ?_)
      have hz7 : (Zmod M7) := by rw [eM7]; exact hz_z6
      refine g_goto C (pc := 38) 47 dX5_set_38 (by decide) ?_
      exact r_ei C rfl dX5_set_47 hz7
  · refine g_aload_n C (pc := 9) dX5_set_9 0 rfl ?_
    refine g_bipush C (pc := 10) dX5_set_10 cB_m2 ?_
    refine g_Vei C (pc := 12) (As := [.int (-2)]) (kX5_refuse l D cA T h M (-2) hz rf_m2) (v_id (modW cA h) M 10 (fun _ => rfl) rfl) gX5_set_X5_refuse rfl ⟨rfl, rfl⟩ ⟨Nat.le_of_ble_eq_true rfl, Nat.le_of_ble_eq_true rfl⟩ ⟨Nat.zero_le _, Nat.zero_le _⟩ rfl (Nat.le_of_ble_eq_true rfl) hdV_X5_refuse 0 rfl rfl rfl dX5_set_12 (fun z8 ez8 hz_z8 => ?_)
    refine g_nmW (modW cA h) (fun M9 eM9 => ?_)
    have hz9 : (Zmod M9) := by rw [eM9]; exact hz_z8
    exact r_ei C rfl dX5_set_15 hz9

noncomputable def xX5_glass (M : St) (p0 : Int32) : Int32 × St := nm ((xX5_within p0 0 9999) : Int32) fun x1 => if x1 = 0 then (nm (xX5_becomes M 15 p0) fun z3 => nm (z3.2) fun M4 => (z3.1, M4)) else (nm (xX5_refuse M x1) fun z5 => nm (z5.2) fun M6 => (z5.1, M6))
set_option maxHeartbeats 4000000 in
set_option maxRecDepth 100000 in
theorem kX5_glass (l : Launch) (D : va_G) (cA : ClassId) (T : Nat × Nat × Nat) (h : Nat → Nat) (M : St) (p0 : Int32) (hz : (Zmod M)) : ∀ sz : Nat, Met l yX5_glass wsX5_glass { frames := 1, cells := 0, slots := 0, locals := 23 } (va_Pc [.ref (h 0), .int p0] (PreW D cA T (modW cA h M) sz)) (va_Qi (fun r u => (r, u) = (xX5_glass M p0) ∧ (Zmod) u) (fun u => PostW D cA (va_A (modW cA h M) sz) (modW cA h u)) (va_A (modW cA h M) sz)) 0 0 (va_A (modW cA h M) sz) := by
  refine m_ei (Wf := modW cA h) (inv := (Zmod)) (cc := cX5_glass) (maxL := 3) (own := RX5) (by decide) rfl rfl (Nat.le_of_ble_eq_true rfl) (fun {p e s m args below meth c} A C X => ?_)
  show G p l e { frames := 1, cells := 0, slots := 0, locals := 23 } s m args below meth c 0 0 D A (Qei below D cA A args s 0 0 (modW cA h) (Zmod) X) 3 X (xX5_glass M p0) (modW cA h M) 0 [(0, .ref (h 0)), (1, .int p0)] []
  unfold xX5_glass
  refine g_iload_n C (pc := 0) dX5_glass_0 1 rfl ?_
  refine g_iconst C (pc := 1) dX5_glass_1 cI_0 ?_
  refine g_sipush C (pc := 2) dX5_glass_2 cS_9999 ?_
  refine g_Spi C (pc := 5) (As := [.int p0, .int 0, .int 9999]) (kX5_within l D cA T p0 0 9999) (v_none (modW cA h M) 10 rfl rfl) gX5_glass_X5_within rfl ⟨rfl, rfl⟩ ⟨Nat.le_of_ble_eq_true rfl, Nat.le_of_ble_eq_true rfl⟩ ⟨Nat.zero_le _, Nat.zero_le _⟩ rfl (Nat.le_of_ble_eq_true rfl) hdS_X5_within rfl dX5_glass_5 ?_
  refine g_nmi (fun x1 ex1 => ?_)
  refine g_istore_n C (pc := 8) [(2, .int x1), (0, .ref (h 0)), (1, .int p0)] dX5_glass_8 (by decide) rfl ?_
  refine g_iload_n C (pc := 9) dX5_glass_9 0 rfl ?_
  refine g_if_eq C (pc := 10) 21 dX5_glass_10 (by decide) (fun c2 => ?_) (fun c2 => ?_)
  · refine g_aload_n C (pc := 21) dX5_glass_21 1 rfl ?_
    refine g_bipush C (pc := 22) dX5_glass_22 cB_15 ?_
    refine g_iload_n C (pc := 24) dX5_glass_24 2 rfl ?_
    refine g_Vei C (pc := 25) (As := [.int 15, .int p0]) (kX5_becomes l D cA T h M 15 p0 hz inb_15_151 (gl_hq hz)) (v_id (modW cA h) M 10 (fun _ => rfl) rfl) gX5_glass_X5_becomes rfl ⟨rfl, rfl⟩ ⟨Nat.le_of_ble_eq_true rfl, Nat.le_of_ble_eq_true rfl⟩ ⟨Nat.zero_le _, Nat.zero_le _⟩ rfl (Nat.le_of_ble_eq_true rfl) hdV_X5_becomes 0 rfl rfl rfl dX5_glass_25 (fun z3 ez3 hz_z3 => ?_)
    refine g_nmW (modW cA h) (fun M4 eM4 => ?_)
    have hz4 : (Zmod M4) := by rw [eM4]; exact hz_z3
    exact r_ei C rfl dX5_glass_28 hz4
  · refine g_aload_n C (pc := 13) dX5_glass_13 1 rfl ?_
    refine g_iload_n C (pc := 14) dX5_glass_14 0 rfl ?_
    refine g_Vei C (pc := 15) (As := [.int x1]) (kX5_refuse l D cA T h M x1 hz (rf_vp (rf_of (by rw [ex1]; (repeat' split) <;> first | exact rf0_c (by decide) | exact rf0_within _ _ _ | exact rf0_wrongRun _ _ | exact rf0_wrongSorts _ _) c2))) (v_id (modW cA h) M 10 (fun _ => rfl) rfl) gX5_glass_X5_refuse rfl ⟨rfl, rfl⟩ ⟨Nat.le_of_ble_eq_true rfl, Nat.le_of_ble_eq_true rfl⟩ ⟨Nat.zero_le _, Nat.zero_le _⟩ rfl (Nat.le_of_ble_eq_true rfl) hdV_X5_refuse 0 rfl rfl rfl dX5_glass_15 (fun z5 ez5 hz_z5 => ?_)
    refine g_nmW (modW cA h) (fun M6 eM6 => ?_)
    have hz6 : (Zmod M6) := by rw [eM6]; exact hz_z5
    refine g_goto C (pc := 18) 28 dX5_glass_18 (by decide) ?_
    exact r_ei C rfl dX5_glass_28 hz6
theorem inX5_wet_5 : ∀ w ∈ u_ws RX5 TX5 14, w ∈ wsX5_wet := by decide +kernel
noncomputable def xX5_wet (M : St) (p0 : Int32) : Int32 × St := nm ((xX5_within p0 0 9900) : Int32) fun x1 => if x1 = 0 then (nm (xX5_becomes M 18 (xX5_lesser p0 (100 * (M 2 0)))) fun z3 => nm (z3.2) fun M4 => (z3.1, M4)) else (nm (xX5_refuse M x1) fun z5 => nm (z5.2) fun M6 => (z5.1, M6))
set_option maxHeartbeats 4000000 in
set_option maxRecDepth 100000 in
theorem kX5_wet (l : Launch) (D : va_G) (cA : ClassId) (T : Nat × Nat × Nat) (h : Nat → Nat) (M : St) (p0 : Int32) (hz : (Zmod M)) : ∀ sz : Nat, Met l yX5_wet wsX5_wet { frames := 1, cells := 0, slots := 0, locals := 23 } (va_Pc [.ref (h 0), .int p0] (PreW D cA T (modW cA h M) sz)) (va_Qi (fun r u => (r, u) = (xX5_wet M p0) ∧ (Zmod) u) (fun u => PostW D cA (va_A (modW cA h M) sz) (modW cA h u)) (va_A (modW cA h M) sz)) 0 0 (va_A (modW cA h M) sz) := by
  refine m_ei (Wf := modW cA h) (inv := (Zmod)) (cc := cX5_wet) (maxL := 3) (own := RX5) (by decide) rfl rfl (Nat.le_of_ble_eq_true rfl) (fun {p e s m args below meth c} A C X => ?_)
  show G p l e { frames := 1, cells := 0, slots := 0, locals := 23 } s m args below meth c 0 0 D A (Qei below D cA A args s 0 0 (modW cA h) (Zmod) X) 3 X (xX5_wet M p0) (modW cA h M) 0 [(0, .ref (h 0)), (1, .int p0)] []
  unfold xX5_wet
  refine g_iload_n C (pc := 0) dX5_wet_0 1 rfl ?_
  refine g_iconst C (pc := 1) dX5_wet_1 cI_0 ?_
  refine g_sipush C (pc := 2) dX5_wet_2 cS_9900 ?_
  refine g_Spi C (pc := 5) (As := [.int p0, .int 0, .int 9900]) (kX5_within l D cA T p0 0 9900) (v_none (modW cA h M) 10 rfl rfl) gX5_wet_X5_within rfl ⟨rfl, rfl⟩ ⟨Nat.le_of_ble_eq_true rfl, Nat.le_of_ble_eq_true rfl⟩ ⟨Nat.zero_le _, Nat.zero_le _⟩ rfl (Nat.le_of_ble_eq_true rfl) hdS_X5_within rfl dX5_wet_5 ?_
  refine g_nmi (fun x1 ex1 => ?_)
  refine g_istore_n C (pc := 8) [(2, .int x1), (0, .ref (h 0)), (1, .int p0)] dX5_wet_8 (by decide) rfl ?_
  refine g_iload_n C (pc := 9) dX5_wet_9 0 rfl ?_
  refine g_if_eq C (pc := 10) 21 dX5_wet_10 (by decide) (fun c2 => ?_) (fun c2 => ?_)
  · refine g_aload_n C (pc := 21) dX5_wet_21 1 rfl ?_
    refine g_bipush C (pc := 22) dX5_wet_22 cB_18 ?_
    refine g_iload_n C (pc := 24) dX5_wet_24 2 rfl ?_
    refine g_bipush C (pc := 25) dX5_wet_25 cB_100 ?_
    refine g_aload_n C (pc := 27) dX5_wet_27 1 rfl ?_
    refine g_get C (pc := 28) inX5_wet_5 rfl 1 (by decide) (List.mem_of_getElem? (i := 1) rfl) dX5_wet_28 0 rfl (.ref (h 2)) rfl ?_
    refine g_iconst C (pc := 31) dX5_wet_31 cI_0 ?_
    refine g_iald C (pc := 32) dX5_wet_32 2 rfl inb_0_151 (M 2 0) (congrArg (M 2) tn_0) ?_
    refine g_imul C (pc := 33) dX5_wet_33 ?_
    refine g_Spi C (pc := 34) (As := [.int p0, .int (100 * (M 2 0))]) (kX5_lesser l D cA T p0 (100 * (M 2 0))) (v_none (modW cA h M) 10 rfl rfl) gX5_wet_X5_lesser rfl ⟨rfl, rfl⟩ ⟨Nat.le_of_ble_eq_true rfl, Nat.le_of_ble_eq_true rfl⟩ ⟨Nat.zero_le _, Nat.zero_le _⟩ rfl (Nat.le_of_ble_eq_true rfl) hdS_X5_lesser rfl dX5_wet_34 ?_
    refine g_Vei C (pc := 37) (As := [.int 18, .int (xX5_lesser p0 (100 * (M 2 0)))]) (kX5_becomes l D cA T h M 18 (xX5_lesser p0 (100 * (M 2 0))) hz inb_18_151 (we_hq hz)) (v_id (modW cA h) M 10 (fun _ => rfl) rfl) gX5_wet_X5_becomes rfl ⟨rfl, rfl⟩ ⟨Nat.le_of_ble_eq_true rfl, Nat.le_of_ble_eq_true rfl⟩ ⟨Nat.zero_le _, Nat.zero_le _⟩ rfl (Nat.le_of_ble_eq_true rfl) hdV_X5_becomes 0 rfl rfl rfl dX5_wet_37 (fun z3 ez3 hz_z3 => ?_)
    refine g_nmW (modW cA h) (fun M4 eM4 => ?_)
    have hz4 : (Zmod M4) := by rw [eM4]; exact hz_z3
    exact r_ei C rfl dX5_wet_40 hz4
  · refine g_aload_n C (pc := 13) dX5_wet_13 1 rfl ?_
    refine g_iload_n C (pc := 14) dX5_wet_14 0 rfl ?_
    refine g_Vei C (pc := 15) (As := [.int x1]) (kX5_refuse l D cA T h M x1 hz (rf_vp (rf_of (by rw [ex1]; (repeat' split) <;> first | exact rf0_c (by decide) | exact rf0_within _ _ _ | exact rf0_wrongRun _ _ | exact rf0_wrongSorts _ _) c2))) (v_id (modW cA h) M 10 (fun _ => rfl) rfl) gX5_wet_X5_refuse rfl ⟨rfl, rfl⟩ ⟨Nat.le_of_ble_eq_true rfl, Nat.le_of_ble_eq_true rfl⟩ ⟨Nat.zero_le _, Nat.zero_le _⟩ rfl (Nat.le_of_ble_eq_true rfl) hdV_X5_refuse 0 rfl rfl rfl dX5_wet_15 (fun z5 ez5 hz_z5 => ?_)
    refine g_nmW (modW cA h) (fun M6 eM6 => ?_)
    have hz6 : (Zmod M6) := by rw [eM6]; exact hz_z5
    refine g_goto C (pc := 18) 40 dX5_wet_18 (by decide) ?_
    exact r_ei C rfl dX5_wet_40 hz6
theorem inX5_run_5 : ∀ w ∈ u_ws RX5 TX5 14, w ∈ wsX5_run := by decide +kernel
noncomputable def xX5_run (M : St) (p0 : Int32) : Int32 × St := nm ((xX5_within p0 1 3000) : Int32) fun x1 => if x1 = 0 then (nm (xX5_goesOn (M 0) (sh 2 M) p0) fun z3 => nm (put 2 1 z3.2 M) fun M4 => (z3.1, M4)) else (nm (xX5_refuse M x1) fun z5 => nm (z5.2) fun M6 => (z5.1, M6))
set_option maxHeartbeats 4000000 in
set_option maxRecDepth 100000 in
theorem kX5_run (l : Launch) (D : va_G) (cA : ClassId) (T : Nat × Nat × Nat) (h : Nat → Nat) (M : St) (p0 : Int32) (hz : (Zmod M)) : ∀ sz : Nat, Met l yX5_run wsX5_run { frames := 4, cells := 0, slots := 0, locals := 94 } (va_Pc [.ref (h 0), .int p0] (PreW D cA T (modW cA h M) sz)) (va_Qi (fun r u => (r, u) = (xX5_run M p0) ∧ (Zmod) u) (fun u => PostW D cA (va_A (modW cA h M) sz) (modW cA h u)) (va_A (modW cA h M) sz)) 0 0 (va_A (modW cA h M) sz) := by
  refine m_ei (Wf := modW cA h) (inv := (Zmod)) (cc := cX5_run) (maxL := 3) (own := RX5) (by decide) rfl rfl (Nat.le_of_ble_eq_true rfl) (fun {p e s m args below meth c} A C X => ?_)
  show G p l e { frames := 4, cells := 0, slots := 0, locals := 94 } s m args below meth c 0 0 D A (Qei below D cA A args s 0 0 (modW cA h) (Zmod) X) 3 X (xX5_run M p0) (modW cA h M) 0 [(0, .ref (h 0)), (1, .int p0)] []
  unfold xX5_run
  refine g_iload_n C (pc := 0) dX5_run_0 1 rfl ?_
  refine g_iconst C (pc := 1) dX5_run_1 cI_1 ?_
  refine g_sipush C (pc := 2) dX5_run_2 cS_3000 ?_
  refine g_Spi C (pc := 5) (As := [.int p0, .int 1, .int 3000]) (kX5_within l D cA T p0 1 3000) (v_none (modW cA h M) 10 rfl rfl) gX5_run_X5_within rfl ⟨rfl, rfl⟩ ⟨Nat.le_of_ble_eq_true rfl, Nat.le_of_ble_eq_true rfl⟩ ⟨Nat.zero_le _, Nat.zero_le _⟩ rfl (Nat.le_of_ble_eq_true rfl) hdS_X5_within rfl dX5_run_5 ?_
  refine g_nmi (fun x1 ex1 => ?_)
  refine g_istore_n C (pc := 8) [(2, .int x1), (0, .ref (h 0)), (1, .int p0)] dX5_run_8 (by decide) rfl ?_
  refine g_iload_n C (pc := 9) dX5_run_9 0 rfl ?_
  refine g_if_eq C (pc := 10) 21 dX5_run_10 (by decide) (fun c2 => ?_) (fun c2 => ?_)
  · refine g_aload_n C (pc := 21) dX5_run_21 1 rfl ?_
    refine g_aload_n C (pc := 22) dX5_run_22 1 rfl ?_
    refine g_get C (pc := 23) inX5_run_5 rfl 1 (by decide) (List.mem_of_getElem? (i := 1) rfl) dX5_run_23 0 rfl (.ref (h 2)) rfl ?_
    refine g_iload_n C (pc := 26) dX5_run_26 2 rfl ?_
    refine g_Vei C (pc := 27) (As := [.ref (h 2), .int p0]) (kX5_goesOn l D cA T h (M 0) (sh2 0 1 2 h) (sh 2 M) p0 hz.1) (v_mod_modk_0_2 cA h M) gX5_run_X5_goesOn rfl ⟨rfl, rfl⟩ ⟨Nat.le_of_ble_eq_true rfl, Nat.le_of_ble_eq_true rfl⟩ ⟨Nat.zero_le _, Nat.zero_le _⟩ rfl (Nat.le_of_ble_eq_true rfl) hdV_X5_goesOn 0 rfl rfl rfl dX5_run_27 (fun z3 ez3 hz_z3 => ?_)
    refine g_nmW (modW cA h) (fun M4 eM4 => ?_)
    have hz4 : (Zmod M4) := by rw [eM4]; exact ⟨hz_z3, hz.2.1, hz.2.2⟩
    exact r_ei C rfl dX5_run_30 hz4
  · refine g_aload_n C (pc := 13) dX5_run_13 1 rfl ?_
    refine g_iload_n C (pc := 14) dX5_run_14 0 rfl ?_
    refine g_Vei C (pc := 15) (As := [.int x1]) (kX5_refuse l D cA T h M x1 hz (rf_vp (rf_of (by rw [ex1]; (repeat' split) <;> first | exact rf0_c (by decide) | exact rf0_within _ _ _ | exact rf0_wrongRun _ _ | exact rf0_wrongSorts _ _) c2))) (v_id (modW cA h) M 10 (fun _ => rfl) rfl) gX5_run_X5_refuse rfl ⟨rfl, rfl⟩ ⟨Nat.le_of_ble_eq_true rfl, Nat.le_of_ble_eq_true rfl⟩ ⟨Nat.zero_le _, Nat.zero_le _⟩ rfl (Nat.le_of_ble_eq_true rfl) hdV_X5_refuse 0 rfl rfl rfl dX5_run_15 (fun z5 ez5 hz_z5 => ?_)
    refine g_nmW (modW cA h) (fun M6 eM6 => ?_)
    have hz6 : (Zmod M6) := by rw [eM6]; exact hz_z5
    refine g_goto C (pc := 18) 30 dX5_run_18 (by decide) ?_
    exact r_ei C rfl dX5_run_30 hz6
theorem inX5_now_5 : ∀ w ∈ u_ws RX5 TX5 14, w ∈ wsX5_now := by decide +kernel
noncomputable def xX5_now (M : St) (p0 : Int32) : Int32 × St := if (xX5_isIn p0 13) = 0 then (nm (xX5_refuse M (-2)) fun z4 => nm (z4.2) fun M5 => ((1000000000 - z4.1), M5)) else (if 11 ≤ p0 then (if p0 = 11 then (((M 2 15), M)) else (((M 2 28), M))) else (((M 2 ((16 + p0) : Int32).toNatClampNeg), M)))
set_option maxHeartbeats 4000000 in
set_option maxRecDepth 100000 in
theorem kX5_now (l : Launch) (D : va_G) (cA : ClassId) (T : Nat × Nat × Nat) (h : Nat → Nat) (M : St) (p0 : Int32) (hz : (Zmod M)) : ∀ sz : Nat, Met l yX5_now wsX5_now { frames := 1, cells := 0, slots := 0, locals := 21 } (va_Pc [.ref (h 0), .int p0] (PreW D cA T (modW cA h M) sz)) (va_Qi (fun r u => (r, u) = (xX5_now M p0) ∧ (Zmod) u) (fun u => PostW D cA (va_A (modW cA h M) sz) (modW cA h u)) (va_A (modW cA h M) sz)) 0 0 (va_A (modW cA h M) sz) := by
  refine m_ei (Wf := modW cA h) (inv := (Zmod)) (cc := cX5_now) (maxL := 2) (own := RX5) (by decide) rfl rfl (Nat.le_of_ble_eq_true rfl) (fun {p e s m args below meth c} A C X => ?_)
  show G p l e { frames := 1, cells := 0, slots := 0, locals := 21 } s m args below meth c 0 0 D A (Qei below D cA A args s 0 0 (modW cA h) (Zmod) X) 2 X (xX5_now M p0) (modW cA h M) 0 [(0, .ref (h 0)), (1, .int p0)] []
  unfold xX5_now
  refine g_iload_n C (pc := 0) dX5_now_0 1 rfl ?_
  refine g_bipush C (pc := 1) dX5_now_1 cB_13 ?_
  refine g_Spi C (pc := 3) (As := [.int p0, .int 13]) (kX5_isIn l D cA T p0 13) (v_none (modW cA h M) 10 rfl rfl) gX5_now_X5_isIn rfl ⟨rfl, rfl⟩ ⟨Nat.le_of_ble_eq_true rfl, Nat.le_of_ble_eq_true rfl⟩ ⟨Nat.zero_le _, Nat.zero_le _⟩ rfl (Nat.le_of_ble_eq_true rfl) hdS_X5_isIn rfl dX5_now_3 ?_
  refine g_if_ne C (pc := 6) 19 dX5_now_6 (by decide) (fun c1 => ?_) (fun c1 => ?_)
  · refine g_iload_n C (pc := 19) dX5_now_19 1 rfl ?_
    refine g_bipush C (pc := 20) dX5_now_20 cB_11 ?_
    refine g_icmp_ge C (pc := 22) 37 dX5_now_22 (by decide) (fun c2 => ?_) (fun c2 => ?_)
    · refine g_iload_n C (pc := 37) dX5_now_37 1 rfl ?_
      refine g_bipush C (pc := 38) dX5_now_38 cB_11 ?_
      refine g_icmp_ne C (pc := 40) 53 dX5_now_40 (by decide) (fun c3 => ?_) (fun c3 => ?_)
      · refine g_aload_n C (pc := 53) dX5_now_53 0 rfl ?_
        refine g_get C (pc := 54) inX5_now_5 rfl 1 (by decide) (List.mem_of_getElem? (i := 2) rfl) dX5_now_54 0 rfl (.ref (h 2)) rfl ?_
        refine g_bipush C (pc := 57) dX5_now_57 cB_28 ?_
        refine g_iald C (pc := 59) dX5_now_59 2 rfl inb_28_151 (M 2 28) (congrArg (M 2) tn_28) ?_
        exact r_ei C rfl dX5_now_60 hz
      · refine g_aload_n C (pc := 43) dX5_now_43 0 rfl ?_
        refine g_get C (pc := 44) inX5_now_5 rfl 1 (by decide) (List.mem_of_getElem? (i := 2) rfl) dX5_now_44 0 rfl (.ref (h 2)) rfl ?_
        refine g_bipush C (pc := 47) dX5_now_47 cB_15 ?_
        refine g_iald C (pc := 49) dX5_now_49 2 rfl inb_15_151 (M 2 15) (congrArg (M 2) tn_15) ?_
        refine g_goto C (pc := 50) 60 dX5_now_50 (by decide) ?_
        exact r_ei C rfl dX5_now_60 hz
    · refine g_aload_n C (pc := 25) dX5_now_25 0 rfl ?_
      refine g_get C (pc := 26) inX5_now_5 rfl 1 (by decide) (List.mem_of_getElem? (i := 2) rfl) dX5_now_26 0 rfl (.ref (h 2)) rfl ?_
      refine g_bipush C (pc := 29) dX5_now_29 cB_16 ?_
      refine g_iload_n C (pc := 31) dX5_now_31 1 rfl ?_
      refine g_iadd C (pc := 32) dX5_now_32 ?_
      refine g_iald C (pc := 33) dX5_now_33 2 rfl (now_in c1 c2) (M 2 ((16 + p0) : Int32).toNatClampNeg) rfl ?_
      refine g_goto C (pc := 34) 60 dX5_now_34 (by decide) ?_
      exact r_ei C rfl dX5_now_60 hz
  · refine g_ldc C (pc := 9) (v := 1000000000) dX5_now_9 (List.mem_of_getElem? (i := 1) rfl) ?_
    refine g_aload_n C (pc := 11) dX5_now_11 0 rfl ?_
    refine g_bipush C (pc := 12) dX5_now_12 cB_m2 ?_
    refine g_Vei C (pc := 14) (As := [.int (-2)]) (kX5_refuse l D cA T h M (-2) hz rf_m2) (v_id (modW cA h) M 10 (fun _ => rfl) rfl) gX5_now_X5_refuse rfl ⟨rfl, rfl⟩ ⟨Nat.le_of_ble_eq_true rfl, Nat.le_of_ble_eq_true rfl⟩ ⟨Nat.zero_le _, Nat.zero_le _⟩ rfl (Nat.le_of_ble_eq_true rfl) hdV_X5_refuse 0 rfl rfl rfl dX5_now_14 (fun z4 ez4 hz_z4 => ?_)
    refine g_nmW (modW cA h) (fun M5 eM5 => ?_)
    have hz5 : (Zmod M5) := by rw [eM5]; exact hz_z4
    refine g_isub C (pc := 17) dX5_now_17 ?_
    exact r_ei C rfl dX5_now_18 hz5
theorem inX5_air_5 : ∀ w ∈ u_ws RX5 TX5 14, w ∈ wsX5_air := by decide +kernel
noncomputable def xX5_air (M : St) (p0 : Int32) : Int32 × St := if (xX5_isIn p0 4) = 0 then (nm (xX5_refuse M (-2)) fun z2 => nm (z2.2) fun M3 => (z2.1, M3)) else (((xX5_airOf (sh 2 M) (8 + p0)), M))
set_option maxHeartbeats 4000000 in
set_option maxRecDepth 100000 in
theorem kX5_air (l : Launch) (D : va_G) (cA : ClassId) (T : Nat × Nat × Nat) (h : Nat → Nat) (M : St) (p0 : Int32) (hz : (Zmod M)) : ∀ sz : Nat, Met l yX5_air wsX5_air { frames := 1, cells := 0, slots := 0, locals := 25 } (va_Pc [.ref (h 0), .int p0] (PreW D cA T (modW cA h M) sz)) (va_Qi (fun r u => (r, u) = (xX5_air M p0) ∧ (Zmod) u) (fun u => PostW D cA (va_A (modW cA h M) sz) (modW cA h u)) (va_A (modW cA h M) sz)) 0 0 (va_A (modW cA h M) sz) := by
  refine m_ei (Wf := modW cA h) (inv := (Zmod)) (cc := cX5_air) (maxL := 2) (own := RX5) (by decide) rfl rfl (Nat.le_of_ble_eq_true rfl) (fun {p e s m args below meth c} A C X => ?_)
  show G p l e { frames := 1, cells := 0, slots := 0, locals := 25 } s m args below meth c 0 0 D A (Qei below D cA A args s 0 0 (modW cA h) (Zmod) X) 2 X (xX5_air M p0) (modW cA h M) 0 [(0, .ref (h 0)), (1, .int p0)] []
  unfold xX5_air
  refine g_iload_n C (pc := 0) dX5_air_0 1 rfl ?_
  refine g_iconst C (pc := 1) dX5_air_1 cI_4 ?_
  refine g_Spi C (pc := 2) (As := [.int p0, .int 4]) (kX5_isIn l D cA T p0 4) (v_none (modW cA h M) 10 rfl rfl) gX5_air_X5_isIn rfl ⟨rfl, rfl⟩ ⟨Nat.le_of_ble_eq_true rfl, Nat.le_of_ble_eq_true rfl⟩ ⟨Nat.zero_le _, Nat.zero_le _⟩ rfl (Nat.le_of_ble_eq_true rfl) hdS_X5_isIn rfl dX5_air_2 ?_
  refine g_if_eq C (pc := 5) 22 dX5_air_5 (by decide) (fun c1 => ?_) (fun c1 => ?_)
  · refine g_aload_n C (pc := 22) dX5_air_22 0 rfl ?_
    refine g_bipush C (pc := 23) dX5_air_23 cB_m2 ?_
    refine g_Vei C (pc := 25) (As := [.int (-2)]) (kX5_refuse l D cA T h M (-2) hz rf_m2) (v_id (modW cA h) M 10 (fun _ => rfl) rfl) gX5_air_X5_refuse rfl ⟨rfl, rfl⟩ ⟨Nat.le_of_ble_eq_true rfl, Nat.le_of_ble_eq_true rfl⟩ ⟨Nat.zero_le _, Nat.zero_le _⟩ rfl (Nat.le_of_ble_eq_true rfl) hdV_X5_refuse 0 rfl rfl rfl dX5_air_25 (fun z2 ez2 hz_z2 => ?_)
    refine g_nmW (modW cA h) (fun M3 eM3 => ?_)
    have hz3 : (Zmod M3) := by rw [eM3]; exact hz_z2
    exact r_ei C rfl dX5_air_28 hz3
  · refine g_aload_n C (pc := 8) dX5_air_8 0 rfl ?_
    refine g_get C (pc := 9) inX5_air_5 rfl 1 (by decide) (List.mem_of_getElem? (i := 1) rfl) dX5_air_9 0 rfl (.ref (h 2)) rfl ?_
    refine g_bipush C (pc := 12) dX5_air_12 cB_8 ?_
    refine g_iload_n C (pc := 14) dX5_air_14 1 rfl ?_
    refine g_iadd C (pc := 15) dX5_air_15 ?_
    refine g_Spi C (pc := 16) (As := [.ref (h 2), .int (8 + p0)]) (kX5_airOf l D cA T (sh 2 h) (sh 2 M) (8 + p0) hz.1 (air_in c1)) (v_mod_arr1_2 cA h M) gX5_air_X5_airOf rfl ⟨rfl, rfl⟩ ⟨Nat.le_of_ble_eq_true rfl, Nat.le_of_ble_eq_true rfl⟩ ⟨Nat.zero_le _, Nat.zero_le _⟩ rfl (Nat.le_of_ble_eq_true rfl) hdS_X5_airOf rfl dX5_air_16 ?_
    refine g_goto C (pc := 19) 28 dX5_air_19 (by decide) ?_
    exact r_ei C rfl dX5_air_28 hz
theorem inX5_full_5 : ∀ w ∈ u_ws RX5 TX5 14, w ∈ wsX5_full := by decide +kernel
noncomputable def xX5_full (M : St) : Int32 := (xX5_fullOf (sh 2 M))
set_option maxHeartbeats 4000000 in
set_option maxRecDepth 100000 in
theorem kX5_full (l : Launch) (D : va_G) (cA : ClassId) (T : Nat × Nat × Nat) (h : Nat → Nat) (M : St) (hz : (Zmod M)) : ∀ sz : Nat, Met l yX5_full wsX5_full { frames := 1, cells := 0, slots := 0, locals := 20 } (va_Pc [.ref (h 0)] (PreW D cA T (modW cA h M) sz)) (va_Qi (fun r (_ : Unit) => r = (xX5_full M)) (fun _ => PostW D cA (va_A (modW cA h M) sz) (modW cA h M)) (va_A (modW cA h M) sz)) 0 0 (va_A (modW cA h M) sz) := by
  refine m_pi (cc := cX5_full) (maxL := 1) (own := RX5) (by decide) rfl rfl (Nat.le_of_ble_eq_true rfl) (fun {p e s m args below meth c} A C X => ?_)
  show G p l e { frames := 1, cells := 0, slots := 0, locals := 20 } s m args below meth c 0 0 D A (Qpi below D cA A args s (modW cA h M) X) 1 X (xX5_full M) (modW cA h M) 0 [(0, .ref (h 0))] []
  unfold xX5_full
  refine g_aload_n C (pc := 0) dX5_full_0 0 rfl ?_
  refine g_get C (pc := 1) inX5_full_5 rfl 1 (by decide) (List.mem_of_getElem? (i := 1) rfl) dX5_full_1 0 rfl (.ref (h 2)) rfl ?_
  refine g_Spi C (pc := 4) (As := [.ref (h 2)]) (kX5_fullOf l D cA T (sh 2 h) (sh 2 M) hz.1) (v_mod_arr1_2 cA h M) gX5_full_X5_fullOf rfl ⟨rfl, rfl⟩ ⟨Nat.le_of_ble_eq_true rfl, Nat.le_of_ble_eq_true rfl⟩ ⟨Nat.zero_le _, Nat.zero_le _⟩ rfl (Nat.le_of_ble_eq_true rfl) hdS_X5_fullOf rfl dX5_full_4 ?_
  exact r_pi C rfl dX5_full_7
theorem inX5_often_5 : ∀ w ∈ u_ws RX5 TX5 14, w ∈ wsX5_often := by decide +kernel
noncomputable def xX5_often (M : St) (p0 : Int32) : Int32 × St := nm ((xX5_wrongRun M p0) : Int32) fun x1 => if x1 = 0 then (nm (xX5_begins M) fun M3 => nm (xX5_goesOn (M3 0) (sh 4 M3) p0) fun z4 => nm (put 4 1 z4.2 M3) fun M5 => ((z4.1 - (M5 2 23)), M5)) else (nm (xX5_refuse M x1) fun z6 => nm (z6.2) fun M7 => (z6.1, M7))
set_option maxHeartbeats 4000000 in
set_option maxRecDepth 100000 in
theorem kX5_often (l : Launch) (D : va_G) (cA : ClassId) (T : Nat × Nat × Nat) (h : Nat → Nat) (M : St) (p0 : Int32) (hz : (Zmod M)) : ∀ sz : Nat, Met l yX5_often wsX5_often { frames := 4, cells := 0, slots := 0, locals := 94 } (va_Pc [.ref (h 0), .int p0] (PreW D cA T (modW cA h M) sz)) (va_Qi (fun r u => (r, u) = (xX5_often M p0) ∧ (Zmod) u) (fun u => PostW D cA (va_A (modW cA h M) sz) (modW cA h u)) (va_A (modW cA h M) sz)) 0 0 (va_A (modW cA h M) sz) := by
  refine m_ei (Wf := modW cA h) (inv := (Zmod)) (cc := cX5_often) (maxL := 3) (own := RX5) (by decide) rfl rfl (Nat.le_of_ble_eq_true rfl) (fun {p e s m args below meth c} A C X => ?_)
  show G p l e { frames := 4, cells := 0, slots := 0, locals := 94 } s m args below meth c 0 0 D A (Qei below D cA A args s 0 0 (modW cA h) (Zmod) X) 3 X (xX5_often M p0) (modW cA h M) 0 [(0, .ref (h 0)), (1, .int p0)] []
  unfold xX5_often
  refine g_aload_n C (pc := 0) dX5_often_0 0 rfl ?_
  refine g_iload_n C (pc := 1) dX5_often_1 1 rfl ?_
  refine g_Vpi C (pc := 2) (As := [.int p0]) (kX5_wrongRun l D cA T h M p0 hz) (v_id (modW cA h) M 10 (fun _ => rfl) rfl) gX5_often_X5_wrongRun rfl ⟨rfl, rfl⟩ ⟨Nat.le_of_ble_eq_true rfl, Nat.le_of_ble_eq_true rfl⟩ ⟨Nat.zero_le _, Nat.zero_le _⟩ rfl (Nat.le_of_ble_eq_true rfl) hdV_X5_wrongRun 0 rfl rfl rfl dX5_often_2 ?_
  refine g_nmi (fun x1 ex1 => ?_)
  refine g_istore_n C (pc := 5) [(2, .int x1), (0, .ref (h 0)), (1, .int p0)] dX5_often_5 (by decide) rfl ?_
  refine g_iload_n C (pc := 6) dX5_often_6 0 rfl ?_
  refine g_if_eq C (pc := 7) 16 dX5_often_7 (by decide) (fun c2 => ?_) (fun c2 => ?_)
  · refine g_aload_n C (pc := 16) dX5_often_16 1 rfl ?_
    refine g_Vev C (pc := 17) (As := []) (kX5_begins l D cA T h M hz) (v_id (modW cA h) M 10 (fun _ => rfl) rfl) gX5_often_X5_begins rfl ⟨rfl, rfl⟩ ⟨Nat.le_of_ble_eq_true rfl, Nat.le_of_ble_eq_true rfl⟩ ⟨Nat.zero_le _, Nat.zero_le _⟩ rfl (Nat.le_of_ble_eq_true rfl) hdV_X5_begins 0 rfl rfl rfl dX5_often_17 (fun M3 eM3 hz_M3 => ?_)
    have hz3 := hz_M3
    have hm := rz_begins hz eM3
    refine g_aload_n C (pc := 20) dX5_often_20 1 rfl ?_
    refine g_aload_n C (pc := 21) dX5_often_21 1 rfl ?_
    refine g_get C (pc := 22) inX5_often_5 rfl 3 (by decide) (List.mem_of_getElem? (i := 1) rfl) dX5_often_22 0 rfl (.ref (h 4)) rfl ?_
    refine g_iload_n C (pc := 25) dX5_often_25 2 rfl ?_
    refine g_Vei C (pc := 26) (As := [.ref (h 4), .int p0]) (kX5_goesOn l D cA T h (M3 0) (sh2 0 1 4 h) (sh 4 M3) p0 hm) (v_mod_modk_0_4 cA h M3) gX5_often_X5_goesOn rfl ⟨rfl, rfl⟩ ⟨Nat.le_of_ble_eq_true rfl, Nat.le_of_ble_eq_true rfl⟩ ⟨Nat.zero_le _, Nat.zero_le _⟩ rfl (Nat.le_of_ble_eq_true rfl) hdV_X5_goesOn 0 rfl rfl rfl dX5_often_26 (fun z4 ez4 hz_z4 => ?_)
    refine g_nmW (modW cA h) (fun M5 eM5 => ?_)
    have hz5 : (Zmod M5) := by rw [eM5]; exact hz3
    refine g_aload_n C (pc := 29) dX5_often_29 1 rfl ?_
    refine g_get C (pc := 30) inX5_often_5 rfl 1 (by decide) (List.mem_of_getElem? (i := 2) rfl) dX5_often_30 0 rfl (.ref (h 2)) rfl ?_
    refine g_bipush C (pc := 33) dX5_often_33 cB_23 ?_
    refine g_iald C (pc := 35) dX5_often_35 2 rfl inb_23_151 (M5 2 23) (congrArg (M5 2) tn_23) ?_
    refine g_isub C (pc := 36) dX5_often_36 ?_
    exact r_ei C rfl dX5_often_37 hz5
  · refine g_aload_n C (pc := 10) dX5_often_10 1 rfl ?_
    refine g_iload_n C (pc := 11) dX5_often_11 0 rfl ?_
    refine g_Vei C (pc := 12) (As := [.int x1]) (kX5_refuse l D cA T h M x1 hz (rf_vp (rf_of (by rw [ex1]; (repeat' split) <;> first | exact rf0_c (by decide) | exact rf0_within _ _ _ | exact rf0_wrongRun _ _ | exact rf0_wrongSorts _ _) c2))) (v_id (modW cA h) M 10 (fun _ => rfl) rfl) gX5_often_X5_refuse rfl ⟨rfl, rfl⟩ ⟨Nat.le_of_ble_eq_true rfl, Nat.le_of_ble_eq_true rfl⟩ ⟨Nat.zero_le _, Nat.zero_le _⟩ rfl (Nat.le_of_ble_eq_true rfl) hdV_X5_refuse 0 rfl rfl rfl dX5_often_12 (fun z6 ez6 hz_z6 => ?_)
    refine g_nmW (modW cA h) (fun M7 eM7 => ?_)
    have hz7 : (Zmod M7) := by rw [eM7]; exact hz_z6
    exact r_ei C rfl dX5_often_15 hz7
theorem inX5_freshBy_5 : ∀ w ∈ u_ws RX5 TX5 14, w ∈ wsX5_freshBy := by decide +kernel
noncomputable def xX5_freshBy (M : St) (p0 : Int32) (p1 : Int32) (p2 : Int32) : Int32 × St := nm ((M 2 (p0 : Int32).toNatClampNeg) : Int32) fun x1 => nm (sa M 2 (up (M 2) ((p0 : Int32).toNatClampNeg) p1)) fun M2 => nm (xX5_fresh M2) fun M3 => nm (sa M3 2 (up (M3 2) ((p0 : Int32).toNatClampNeg) x1)) fun M4 => nm (xX5_goesOn (M4 0) (sh 4 M4) p2) fun z5 => nm (put 4 1 z5.2 M4) fun M6 => (z5.1, M6)
set_option maxHeartbeats 4000000 in
set_option maxRecDepth 100000 in
theorem kX5_freshBy (l : Launch) (D : va_G) (cA : ClassId) (T : Nat × Nat × Nat) (h : Nat → Nat) (M : St) (p0 : Int32) (p1 : Int32) (p2 : Int32) (hz : (Zmod M)) (hp : vp_in p0 15) (hq : p0.toInt = 6 → 1 ≤ p1.toInt ∧ p1.toInt ≤ 4) : ∀ sz : Nat, Met l yX5_freshBy wsX5_freshBy { frames := 4, cells := 0, slots := 0, locals := 94 } (va_Pc [.ref (h 0), .int p0, .int p1, .int p2] (PreW D cA T (modW cA h M) sz)) (va_Qi (fun r u => (r, u) = (xX5_freshBy M p0 p1 p2) ∧ (Zmod) u) (fun u => PostW D cA (va_A (modW cA h M) sz) (modW cA h u)) (va_A (modW cA h M) sz)) 0 0 (va_A (modW cA h M) sz) := by
  refine m_ei (Wf := modW cA h) (inv := (Zmod)) (cc := cX5_freshBy) (maxL := 5) (own := RX5) (by decide) rfl rfl (Nat.le_of_ble_eq_true rfl) (fun {p e s m args below meth c} A C X => ?_)
  show G p l e { frames := 4, cells := 0, slots := 0, locals := 94 } s m args below meth c 0 0 D A (Qei below D cA A args s 0 0 (modW cA h) (Zmod) X) 5 X (xX5_freshBy M p0 p1 p2) (modW cA h M) 0 [(0, .ref (h 0)), (1, .int p0), (2, .int p1), (3, .int p2)] []
  unfold xX5_freshBy
  refine g_aload_n C (pc := 0) dX5_freshBy_0 0 rfl ?_
  refine g_get C (pc := 1) inX5_freshBy_5 rfl 1 (by decide) (List.mem_of_getElem? (i := 1) rfl) dX5_freshBy_1 0 rfl (.ref (h 2)) rfl ?_
  refine g_iload_n C (pc := 4) dX5_freshBy_4 1 rfl ?_
  refine g_iald C (pc := 5) dX5_freshBy_5 2 rfl (in15 hp) (M 2 (p0 : Int32).toNatClampNeg) rfl ?_
  refine g_nmi (fun x1 ex1 => ?_)
  refine g_istore C (pc := 6) [(4, .int x1), (0, .ref (h 0)), (1, .int p0), (2, .int p1), (3, .int p2)] dX5_freshBy_6 (by decide) rfl ?_
  refine g_aload_n C (pc := 8) dX5_freshBy_8 1 rfl ?_
  refine g_get C (pc := 9) inX5_freshBy_5 rfl 1 (by decide) (List.mem_of_getElem? (i := 1) rfl) dX5_freshBy_9 0 rfl (.ref (h 2)) rfl ?_
  refine g_iload_n C (pc := 12) dX5_freshBy_12 2 rfl ?_
  refine g_iload_n C (pc := 13) dX5_freshBy_13 3 rfl ?_
  refine g_iast C (pc := 14) dX5_freshBy_14 2 rfl (in15 hp) ((p0 : Int32).toNatClampNeg) rfl (modW cA h) (sa M 2 (up (M 2) ((p0 : Int32).toNatClampNeg) p1)) rfl (fun M2 eM2 => ?_)
  have hz2 : (Zmod M2) := (fb_z1 hz hp hq eM2)
  refine g_aload_n C (pc := 15) dX5_freshBy_15 1 rfl ?_
  refine g_Vev C (pc := 16) (As := []) (kX5_fresh l D cA T h M2 hz2) (v_id (modW cA h) M2 10 (fun _ => rfl) rfl) gX5_freshBy_X5_fresh rfl ⟨rfl, rfl⟩ ⟨Nat.le_of_ble_eq_true rfl, Nat.le_of_ble_eq_true rfl⟩ ⟨Nat.zero_le _, Nat.zero_le _⟩ rfl (Nat.le_of_ble_eq_true rfl) hdV_X5_fresh 0 rfl rfl rfl dX5_freshBy_16 (fun M3 eM3 hz_M3 => ?_)
  have hz3 := hz_M3
  have hm := rz_fresh hz2 eM3
  refine g_aload_n C (pc := 19) dX5_freshBy_19 1 rfl ?_
  refine g_get C (pc := 20) inX5_freshBy_5 rfl 1 (by decide) (List.mem_of_getElem? (i := 1) rfl) dX5_freshBy_20 0 rfl (.ref (h 2)) rfl ?_
  refine g_iload_n C (pc := 23) dX5_freshBy_23 2 rfl ?_
  refine g_iload C (pc := 24) dX5_freshBy_24 0 rfl ?_
  refine g_iast C (pc := 26) dX5_freshBy_26 2 rfl (in15 hp) ((p0 : Int32).toNatClampNeg) rfl (modW cA h) (sa M3 2 (up (M3 2) ((p0 : Int32).toNatClampNeg) x1)) rfl (fun M4 eM4 => ?_)
  have hz4 : (Zmod M4) := (fb_z2 hz hp ex1 hz3 eM4)
  refine g_aload_n C (pc := 27) dX5_freshBy_27 1 rfl ?_
  refine g_aload_n C (pc := 28) dX5_freshBy_28 1 rfl ?_
  refine g_get C (pc := 29) inX5_freshBy_5 rfl 3 (by decide) (List.mem_of_getElem? (i := 2) rfl) dX5_freshBy_29 0 rfl (.ref (h 4)) rfl ?_
  refine g_iload_n C (pc := 32) dX5_freshBy_32 4 rfl ?_
  refine g_Vei C (pc := 33) (As := [.ref (h 4), .int p2]) (kX5_goesOn l D cA T h (M4 0) (sh2 0 1 4 h) (sh 4 M4) p2 (by rw [eM4]; exact hm)) (v_mod_modk_0_4 cA h M4) gX5_freshBy_X5_goesOn rfl ⟨rfl, rfl⟩ ⟨Nat.le_of_ble_eq_true rfl, Nat.le_of_ble_eq_true rfl⟩ ⟨Nat.zero_le _, Nat.zero_le _⟩ rfl (Nat.le_of_ble_eq_true rfl) hdV_X5_goesOn 0 rfl rfl rfl dX5_freshBy_33 (fun z5 ez5 hz_z5 => ?_)
  refine g_nmW (modW cA h) (fun M6 eM6 => ?_)
  have hz6 : (Zmod M6) := by rw [eM6]; exact hz4
  exact r_ei C rfl dX5_freshBy_36 hz6

noncomputable def xX5_law (M : St) (p0 : Int32) (p1 : Int32) : Int32 × St := nm (if p0 < 0 then ((-4)) else (if 1 ≤ p1 then (if 99 < p0 then ((-6)) else (if p1 ≤ 3000 then (0) else ((-6)))) else ((-4))) : Int32) fun v5 => if v5 = 0 then (nm (xX5_freshBy M 8 p0 p1) fun z7 => nm (z7.2) fun M8 => (z7.1, M8)) else (nm (xX5_refuse M v5) fun z9 => nm (z9.2) fun M10 => (z9.1, M10))
set_option maxHeartbeats 4000000 in
set_option maxRecDepth 100000 in
theorem kX5_law (l : Launch) (D : va_G) (cA : ClassId) (T : Nat × Nat × Nat) (h : Nat → Nat) (M : St) (p0 : Int32) (p1 : Int32) (hz : (Zmod M)) : ∀ sz : Nat, Met l yX5_law wsX5_law { frames := 5, cells := 0, slots := 0, locals := 118 } (va_Pc [.ref (h 0), .int p0, .int p1] (PreW D cA T (modW cA h M) sz)) (va_Qi (fun r u => (r, u) = (xX5_law M p0 p1) ∧ (Zmod) u) (fun u => PostW D cA (va_A (modW cA h M) sz) (modW cA h u)) (va_A (modW cA h M) sz)) 0 0 (va_A (modW cA h M) sz) := by
  refine m_ei (Wf := modW cA h) (inv := (Zmod)) (cc := cX5_law) (maxL := 4) (own := RX5) (by decide) rfl rfl (Nat.le_of_ble_eq_true rfl) (fun {p e s m args below meth c} A C X => ?_)
  show G p l e { frames := 5, cells := 0, slots := 0, locals := 118 } s m args below meth c 0 0 D A (Qei below D cA A args s 0 0 (modW cA h) (Zmod) X) 4 X (xX5_law M p0 p1) (modW cA h M) 0 [(0, .ref (h 0)), (1, .int p0), (2, .int p1)] []
  unfold xX5_law
  refine g_iload_n C (pc := 0) dX5_law_0 1 rfl ?_
  refine g_join (α := Int32) (fun v5 => [(0, .ref (h 0)), (1, .int p0), (2, .int p1)]) (fun v5 => [.int v5]) 33 (fun v5 ev5 => ?_) (fun Jv5 => ?_)
  · refine g_istore_n C (pc := 33) [(3, .int v5), (0, .ref (h 0)), (1, .int p0), (2, .int p1)] dX5_law_33 (by decide) rfl ?_
    refine g_iload_n C (pc := 34) dX5_law_34 0 rfl ?_
    refine g_if_eq C (pc := 35) 46 dX5_law_35 (by decide) (fun c6 => ?_) (fun c6 => ?_)
    · refine g_aload_n C (pc := 46) dX5_law_46 1 rfl ?_
      refine g_bipush C (pc := 47) dX5_law_47 cB_8 ?_
      refine g_iload_n C (pc := 49) dX5_law_49 2 rfl ?_
      refine g_iload_n C (pc := 50) dX5_law_50 3 rfl ?_
      refine g_Vei C (pc := 51) (As := [.int 8, .int p0, .int p1]) (kX5_freshBy l D cA T h M 8 p0 p1 hz (in_p 8 15 (by decide)) (ne6 (by decide))) (v_id (modW cA h) M 10 (fun _ => rfl) rfl) gX5_law_X5_freshBy rfl ⟨rfl, rfl⟩ ⟨Nat.le_of_ble_eq_true rfl, Nat.le_of_ble_eq_true rfl⟩ ⟨Nat.zero_le _, Nat.zero_le _⟩ rfl (Nat.le_of_ble_eq_true rfl) hdV_X5_freshBy 0 rfl rfl rfl dX5_law_51 (fun z7 ez7 hz_z7 => ?_)
      refine g_nmW (modW cA h) (fun M8 eM8 => ?_)
      have hz8 : (Zmod M8) := by rw [eM8]; exact hz_z7
      exact r_ei C rfl dX5_law_54 hz8
    · refine g_aload_n C (pc := 38) dX5_law_38 1 rfl ?_
      refine g_iload_n C (pc := 39) dX5_law_39 0 rfl ?_
      refine g_Vei C (pc := 40) (As := [.int v5]) (kX5_refuse l D cA T h M v5 hz (rf_vp (rf_of (by rw [ev5]; (repeat' split) <;> first | exact rf0_c (by decide) | exact rf0_within _ _ _ | exact rf0_wrongRun _ _ | exact rf0_wrongSorts _ _) c6))) (v_id (modW cA h) M 10 (fun _ => rfl) rfl) gX5_law_X5_refuse rfl ⟨rfl, rfl⟩ ⟨Nat.le_of_ble_eq_true rfl, Nat.le_of_ble_eq_true rfl⟩ ⟨Nat.zero_le _, Nat.zero_le _⟩ rfl (Nat.le_of_ble_eq_true rfl) hdV_X5_refuse 0 rfl rfl rfl dX5_law_40 (fun z9 ez9 hz_z9 => ?_)
      refine g_nmW (modW cA h) (fun M10 eM10 => ?_)
      have hz10 : (Zmod M10) := by rw [eM10]; exact hz_z9
      refine g_goto C (pc := 43) 54 dX5_law_43 (by decide) ?_
      exact r_ei C rfl dX5_law_54 hz10
  · refine g_if_lt0 C (pc := 1) 9 dX5_law_1 (by decide) (fun c1 => ?_) (fun c1 => ?_)
    · refine g_bipush C (pc := 9) dX5_law_9 cB_m4 ?_
      refine g_goto C (pc := 11) 33 dX5_law_11 (by decide) ?_
      refine g_sub [0, 1, 2] rfl ?_
      exact g_lf (if_pos c1) (Jv5 _ (Eq.symm (if_pos c1)))
    · refine g_iload_n C (pc := 4) dX5_law_4 2 rfl ?_
      refine g_iconst C (pc := 5) dX5_law_5 cI_1 ?_
      refine g_icmp_ge0 C (pc := 6) 14 dX5_law_6 (by decide) (fun c2 => ?_) (fun c2 => ?_)
      · refine g_iload_n C (pc := 14) dX5_law_14 1 rfl ?_
        refine g_bipush C (pc := 15) dX5_law_15 cB_99 ?_
        refine g_icmp_gt0 C (pc := 17) 27 dX5_law_17 (by decide) (fun c3 => ?_) (fun c3 => ?_)
        · refine g_bipush C (pc := 27) dX5_law_27 cB_m6 ?_
          refine g_goto C (pc := 29) 33 dX5_law_29 (by decide) ?_
          refine g_sub [0, 1, 2] rfl ?_
          exact g_lf (((if_neg c1).trans (if_pos c2)).trans (if_pos c3)) (Jv5 _ (Eq.symm (((if_neg c1).trans (if_pos c2)).trans (if_pos c3))))
        · refine g_iload_n C (pc := 20) dX5_law_20 2 rfl ?_
          refine g_sipush C (pc := 21) dX5_law_21 cS_3000 ?_
          refine g_icmp_le0 C (pc := 24) 32 dX5_law_24 (by decide) (fun c4 => ?_) (fun c4 => ?_)
          · refine g_iconst C (pc := 32) dX5_law_32 cI_0 ?_
            refine g_sub [0, 1, 2] rfl ?_
            exact g_lf ((((if_neg c1).trans (if_pos c2)).trans (if_neg c3)).trans (if_pos c4)) (Jv5 _ (Eq.symm ((((if_neg c1).trans (if_pos c2)).trans (if_neg c3)).trans (if_pos c4))))
          · refine g_bipush C (pc := 27) dX5_law_27 cB_m6 ?_
            refine g_goto C (pc := 29) 33 dX5_law_29 (by decide) ?_
            refine g_sub [0, 1, 2] rfl ?_
            exact g_lf ((((if_neg c1).trans (if_pos c2)).trans (if_neg c3)).trans (if_neg c4)) (Jv5 _ (Eq.symm ((((if_neg c1).trans (if_pos c2)).trans (if_neg c3)).trans (if_neg c4))))
      · refine g_bipush C (pc := 9) dX5_law_9 cB_m4 ?_
        refine g_goto C (pc := 11) 33 dX5_law_11 (by decide) ?_
        refine g_sub [0, 1, 2] rfl ?_
        exact g_lf ((if_neg c1).trans (if_neg c2)) (Jv5 _ (Eq.symm ((if_neg c1).trans (if_neg c2))))

noncomputable def xX5_stops_l18 : Nat → St → Int32 → Int32 → Int32 × St
  | 0, M4, _, _ => (0, M4)
  | k + 1, M4, p0, v3 => if 100 ≤ v3 then (((-9), M4)) else (nm (xX5_freshBy M4 8 v3 p0) fun z6 => nm (z6.2) fun M7 => if z6.1 ≤ 0 then (nm (v3 + 1 : Int32) fun x9 => xX5_stops_l18 k M7 p0 x9) else ((v3, M7)))
noncomputable def xX5_stops (M : St) (p0 : Int32) : Int32 × St := nm ((xX5_wrongRun M p0) : Int32) fun x1 => if x1 = 0 then (xX5_stops_l18 (mu 0 100 + 1) M p0 0) else (nm (xX5_refuse M x1) fun z10 => nm (z10.2) fun M11 => (z10.1, M11))
set_option maxHeartbeats 4000000 in
set_option maxRecDepth 100000 in
theorem kX5_stops (l : Launch) (D : va_G) (cA : ClassId) (T : Nat × Nat × Nat) (h : Nat → Nat) (M : St) (p0 : Int32) (hz : (Zmod M)) : ∀ sz : Nat, Met l yX5_stops wsX5_stops { frames := 5, cells := 0, slots := 0, locals := 118 } (va_Pc [.ref (h 0), .int p0] (PreW D cA T (modW cA h M) sz)) (va_Qi (fun r u => (r, u) = (xX5_stops M p0) ∧ (Zmod) u) (fun u => PostW D cA (va_A (modW cA h M) sz) (modW cA h u)) (va_A (modW cA h M) sz)) 0 0 (va_A (modW cA h M) sz) := by
  refine m_ei (Wf := modW cA h) (inv := (Zmod)) (cc := cX5_stops) (maxL := 4) (own := RX5) (by decide) rfl rfl (Nat.le_of_ble_eq_true rfl) (fun {p e s m args below meth c} A C X => ?_)
  show G p l e { frames := 5, cells := 0, slots := 0, locals := 118 } s m args below meth c 0 0 D A (Qei below D cA A args s 0 0 (modW cA h) (Zmod) X) 4 X (xX5_stops M p0) (modW cA h M) 0 [(0, .ref (h 0)), (1, .int p0)] []
  unfold xX5_stops
  refine g_aload_n C (pc := 0) dX5_stops_0 0 rfl ?_
  refine g_iload_n C (pc := 1) dX5_stops_1 1 rfl ?_
  refine g_Vpi C (pc := 2) (As := [.int p0]) (kX5_wrongRun l D cA T h M p0 hz) (v_id (modW cA h) M 10 (fun _ => rfl) rfl) gX5_stops_X5_wrongRun rfl ⟨rfl, rfl⟩ ⟨Nat.le_of_ble_eq_true rfl, Nat.le_of_ble_eq_true rfl⟩ ⟨Nat.zero_le _, Nat.zero_le _⟩ rfl (Nat.le_of_ble_eq_true rfl) hdV_X5_wrongRun 0 rfl rfl rfl dX5_stops_2 ?_
  refine g_nmi (fun x1 ex1 => ?_)
  refine g_istore_n C (pc := 5) [(2, .int x1), (0, .ref (h 0)), (1, .int p0)] dX5_stops_5 (by decide) rfl ?_
  refine g_iload_n C (pc := 6) dX5_stops_6 0 rfl ?_
  refine g_if_eq C (pc := 7) 16 dX5_stops_7 (by decide) (fun c2 => ?_) (fun c2 => ?_)
  · refine g_iconst C (pc := 16) dX5_stops_16 cI_0 ?_
    refine g_istore_n C (pc := 17) [(3, .int 0), (2, .int x1), (0, .ref (h 0)), (1, .int p0)] dX5_stops_17 (by decide) rfl ?_
    have L18 : ∀ (k : Nat) (M4 : St) (v3 : Int32), (Zmod M4) → mu v3 100 < k → G p l e { frames := 5, cells := 0, slots := 0, locals := 118 } s m args below meth c 0 0 D A (Qei below D cA A args s 0 0 (modW cA h) (Zmod) X) 4 X (xX5_stops_l18 k M4 p0 v3) (modW cA h M4) 18 [(0, .ref (h 0)), (1, .int p0), (3, .int v3)] [] := by
      intro k
      induction k with
      | zero => intro M4 v3 hz4 hmu; exact absurd hmu (Nat.not_lt_zero _)
      | succ k ih =>
        intro M4 v3 hz4 hmu
        rw [xX5_stops_l18]
        refine g_iload_n C (pc := 18) dX5_stops_18 2 rfl ?_
        refine g_bipush C (pc := 19) dX5_stops_19 cB_100 ?_
        refine g_icmp_ge C (pc := 21) 43 dX5_stops_21 (by decide) (fun c5 => ?_) (fun c5 => ?_)
        · refine g_bipush C (pc := 43) dX5_stops_43 cB_m9 ?_
          exact r_ei C rfl dX5_stops_45 hz4
        · refine g_aload_n C (pc := 24) dX5_stops_24 0 rfl ?_
          refine g_bipush C (pc := 25) dX5_stops_25 cB_8 ?_
          refine g_iload_n C (pc := 27) dX5_stops_27 2 rfl ?_
          refine g_iload_n C (pc := 28) dX5_stops_28 1 rfl ?_
          refine g_Vei C (pc := 29) (As := [.int 8, .int v3, .int p0]) (kX5_freshBy l D cA T h M4 8 v3 p0 hz4 (in_p 8 15 (by decide)) (ne6 (by decide))) (v_id (modW cA h) M4 10 (fun _ => rfl) rfl) gX5_stops_X5_freshBy rfl ⟨rfl, rfl⟩ ⟨Nat.le_of_ble_eq_true rfl, Nat.le_of_ble_eq_true rfl⟩ ⟨Nat.zero_le _, Nat.zero_le _⟩ rfl (Nat.le_of_ble_eq_true rfl) hdV_X5_freshBy 0 rfl rfl rfl dX5_stops_29 (fun z6 ez6 hz_z6 => ?_)
          refine g_nmW (modW cA h) (fun M7 eM7 => ?_)
          have hz7 : (Zmod M7) := by rw [eM7]; exact hz_z6
          refine g_if_le C (pc := 32) 37 dX5_stops_32 (by decide) (fun c8 => ?_) (fun c8 => ?_)
          · refine g_iincN C (pc := 37) 1 (fun y => [(3, .int y), (0, .ref (h 0)), (1, .int p0)]) dX5_stops_37 2 rfl cI_1 (by decide) (fun _ => rfl) (fun x9 ex9 => ?_)
            refine g_goto C (pc := 40) 18 dX5_stops_40 (by decide) ?_
            refine g_sub [1, 2, 0] rfl ?_
            exact ih M7 x9 hz7 (by rw [ex9]; exact lp_dec c5 hmu)
          · refine g_iload_n C (pc := 35) dX5_stops_35 2 rfl ?_
            exact r_ei C rfl dX5_stops_36 hz7
    refine g_sub [2, 3, 0] rfl ?_
    exact L18 _ M 0 hz (Nat.lt_succ_self _)
  · refine g_aload_n C (pc := 10) dX5_stops_10 1 rfl ?_
    refine g_iload_n C (pc := 11) dX5_stops_11 0 rfl ?_
    refine g_Vei C (pc := 12) (As := [.int x1]) (kX5_refuse l D cA T h M x1 hz (rf_vp (rf_of (by rw [ex1]; (repeat' split) <;> first | exact rf0_c (by decide) | exact rf0_within _ _ _ | exact rf0_wrongRun _ _ | exact rf0_wrongSorts _ _) c2))) (v_id (modW cA h) M 10 (fun _ => rfl) rfl) gX5_stops_X5_refuse rfl ⟨rfl, rfl⟩ ⟨Nat.le_of_ble_eq_true rfl, Nat.le_of_ble_eq_true rfl⟩ ⟨Nat.zero_le _, Nat.zero_le _⟩ rfl (Nat.le_of_ble_eq_true rfl) hdV_X5_refuse 0 rfl rfl rfl dX5_stops_12 (fun z10 ez10 hz_z10 => ?_)
    refine g_nmW (modW cA h) (fun M11 eM11 => ?_)
    have hz11 : (Zmod M11) := by rw [eM11]; exact hz_z10
    exact r_ei C rfl dX5_stops_15 hz11

noncomputable def xX5_pegs_l39 : Nat → St → Int32 → Int32 → Int32 → Int32 → Int32 × St
  | 0, M7, _, _, _, _ => (0, M7)
  | k + 1, M7, p0, p1, v5, v6 => if 100 ≤ v6 then ((v5, M7)) else (if v5 < 0 then (nm (xX5_freshBy M7 1 v6 p0) fun z10 => nm (z10.2) fun M11 => if z10.1 ≤ 0 then (nm (v6 + 1 : Int32) fun x13 => xX5_pegs_l39 k M11 p0 p1 v5 x13) else (nm (v6 + 1 : Int32) fun x14 => xX5_pegs_l39 k M11 p0 p1 v6 x14)) else (if p1 = 1 then (nm (xX5_freshBy M7 1 v6 p0) fun z16 => nm (z16.2) fun M17 => if z16.1 ≤ 0 then (nm (v6 + 1 : Int32) fun x19 => xX5_pegs_l39 k M17 p0 p1 v5 x19) else (nm (v6 + 1 : Int32) fun x20 => xX5_pegs_l39 k M17 p0 p1 v6 x20)) else ((v5, M7))))
noncomputable def xX5_pegs (M : St) (p0 : Int32) (p1 : Int32) : Int32 × St := nm (if (xX5_isIn p1 2) = 0 then ((-2)) else ((xX5_within p0 1 1000)) : Int32) fun v2 => if v2 = 0 then (nm ((-9) : Int32) fun x4 => xX5_pegs_l39 (mu 1 100 + 1) M p0 p1 x4 1) else (nm (xX5_refuse M v2) fun z21 => nm (z21.2) fun M22 => (z21.1, M22))
set_option maxHeartbeats 4000000 in
set_option maxRecDepth 100000 in
theorem kX5_pegs (l : Launch) (D : va_G) (cA : ClassId) (T : Nat × Nat × Nat) (h : Nat → Nat) (M : St) (p0 : Int32) (p1 : Int32) (hz : (Zmod M)) : ∀ sz : Nat, Met l yX5_pegs wsX5_pegs { frames := 5, cells := 0, slots := 0, locals := 118 } (va_Pc [.ref (h 0), .int p0, .int p1] (PreW D cA T (modW cA h M) sz)) (va_Qi (fun r u => (r, u) = (xX5_pegs M p0 p1) ∧ (Zmod) u) (fun u => PostW D cA (va_A (modW cA h M) sz) (modW cA h u)) (va_A (modW cA h M) sz)) 0 0 (va_A (modW cA h M) sz) := by
  refine m_ei (Wf := modW cA h) (inv := (Zmod)) (cc := cX5_pegs) (maxL := 6) (own := RX5) (by decide) rfl rfl (Nat.le_of_ble_eq_true rfl) (fun {p e s m args below meth c} A C X => ?_)
  show G p l e { frames := 5, cells := 0, slots := 0, locals := 118 } s m args below meth c 0 0 D A (Qei below D cA A args s 0 0 (modW cA h) (Zmod) X) 6 X (xX5_pegs M p0 p1) (modW cA h M) 0 [(0, .ref (h 0)), (1, .int p0), (2, .int p1)] []
  unfold xX5_pegs
  refine g_iload_n C (pc := 0) dX5_pegs_0 2 rfl ?_
  refine g_iconst C (pc := 1) dX5_pegs_1 cI_2 ?_
  refine g_Spi C (pc := 2) (As := [.int p1, .int 2]) (kX5_isIn l D cA T p1 2) (v_none (modW cA h M) 10 rfl rfl) gX5_pegs_X5_isIn rfl ⟨rfl, rfl⟩ ⟨Nat.le_of_ble_eq_true rfl, Nat.le_of_ble_eq_true rfl⟩ ⟨Nat.zero_le _, Nat.zero_le _⟩ rfl (Nat.le_of_ble_eq_true rfl) hdS_X5_isIn rfl dX5_pegs_2 ?_
  refine g_join (α := Int32) (fun v2 => [(0, .ref (h 0)), (1, .int p0), (2, .int p1)]) (fun v2 => [.int v2]) 21 (fun v2 ev2 => ?_) (fun Jv2 => ?_)
  · refine g_istore_n C (pc := 21) [(3, .int v2), (0, .ref (h 0)), (1, .int p0), (2, .int p1)] dX5_pegs_21 (by decide) rfl ?_
    refine g_iload_n C (pc := 22) dX5_pegs_22 0 rfl ?_
    refine g_if_eq C (pc := 23) 32 dX5_pegs_23 (by decide) (fun c3 => ?_) (fun c3 => ?_)
    · refine g_bipush C (pc := 32) dX5_pegs_32 cB_m9 ?_
      refine g_nmi (fun x4 ex4 => ?_)
      refine g_istore C (pc := 34) [(4, .int x4), (3, .int v2), (0, .ref (h 0)), (1, .int p0), (2, .int p1)] dX5_pegs_34 (by decide) rfl ?_
      refine g_iconst C (pc := 36) dX5_pegs_36 cI_1 ?_
      refine g_istore C (pc := 37) [(5, .int 1), (4, .int x4), (3, .int v2), (0, .ref (h 0)), (1, .int p0), (2, .int p1)] dX5_pegs_37 (by decide) rfl ?_
      have L39 : ∀ (k : Nat) (M7 : St) (v5 : Int32) (v6 : Int32), (Zmod M7) → mu v6 100 < k → G p l e { frames := 5, cells := 0, slots := 0, locals := 118 } s m args below meth c 0 0 D A (Qei below D cA A args s 0 0 (modW cA h) (Zmod) X) 6 X (xX5_pegs_l39 k M7 p0 p1 v5 v6) (modW cA h M7) 39 [(0, .ref (h 0)), (1, .int p0), (2, .int p1), (4, .int v5), (5, .int v6)] [] := by
        intro k
        induction k with
        | zero => intro M7 v5 v6 hz7 hmu; exact absurd hmu (Nat.not_lt_zero _)
        | succ k ih =>
          intro M7 v5 v6 hz7 hmu
          rw [xX5_pegs_l39]
          refine g_iload C (pc := 39) dX5_pegs_39 4 rfl ?_
          refine g_bipush C (pc := 41) dX5_pegs_41 cB_100 ?_
          refine g_icmp_ge C (pc := 43) 82 dX5_pegs_43 (by decide) (fun c8 => ?_) (fun c8 => ?_)
          · refine g_iload C (pc := 82) dX5_pegs_82 3 rfl ?_
            exact r_ei C rfl dX5_pegs_84 hz7
          · refine g_iload C (pc := 46) dX5_pegs_46 3 rfl ?_
            refine g_if_lt C (pc := 48) 56 dX5_pegs_48 (by decide) (fun c9 => ?_) (fun c9 => ?_)
            · refine g_aload_n C (pc := 56) dX5_pegs_56 0 rfl ?_
              refine g_iconst C (pc := 57) dX5_pegs_57 cI_1 ?_
              refine g_iload C (pc := 58) dX5_pegs_58 4 rfl ?_
              refine g_iload_n C (pc := 60) dX5_pegs_60 1 rfl ?_
              refine g_Vei C (pc := 61) (As := [.int 1, .int v6, .int p0]) (kX5_freshBy l D cA T h M7 1 v6 p0 hz7 (in_p 1 15 (by decide)) (ne6 (by decide))) (v_id (modW cA h) M7 10 (fun _ => rfl) rfl) gX5_pegs_X5_freshBy rfl ⟨rfl, rfl⟩ ⟨Nat.le_of_ble_eq_true rfl, Nat.le_of_ble_eq_true rfl⟩ ⟨Nat.zero_le _, Nat.zero_le _⟩ rfl (Nat.le_of_ble_eq_true rfl) hdV_X5_freshBy 0 rfl rfl rfl dX5_pegs_61 (fun z10 ez10 hz_z10 => ?_)
              refine g_nmW (modW cA h) (fun M11 eM11 => ?_)
              have hz11 : (Zmod M11) := by rw [eM11]; exact hz_z10
              refine g_if_le C (pc := 64) 72 dX5_pegs_64 (by decide) (fun c12 => ?_) (fun c12 => ?_)
              · refine g_iload C (pc := 72) dX5_pegs_72 3 rfl ?_
                refine g_istore C (pc := 74) [(4, .int v5), (0, .ref (h 0)), (1, .int p0), (2, .int p1), (5, .int v6)] dX5_pegs_74 (by decide) rfl ?_
                refine g_iincN C (pc := 76) 1 (fun y => [(5, .int y), (4, .int v5), (0, .ref (h 0)), (1, .int p0), (2, .int p1)]) dX5_pegs_76 4 rfl cI_1 (by decide) (fun _ => rfl) (fun x13 ex13 => ?_)
                refine g_goto C (pc := 79) 39 dX5_pegs_79 (by decide) ?_
                refine g_sub [2, 3, 4, 1, 0] rfl ?_
                exact ih M11 v5 x13 hz11 (by rw [ex13]; exact lp_dec c8 hmu)
              · refine g_iload C (pc := 67) dX5_pegs_67 4 rfl ?_
                refine g_goto C (pc := 69) 74 dX5_pegs_69 (by decide) ?_
                refine g_istore C (pc := 74) [(4, .int v6), (0, .ref (h 0)), (1, .int p0), (2, .int p1), (5, .int v6)] dX5_pegs_74 (by decide) rfl ?_
                refine g_iincN C (pc := 76) 1 (fun y => [(5, .int y), (4, .int v6), (0, .ref (h 0)), (1, .int p0), (2, .int p1)]) dX5_pegs_76 4 rfl cI_1 (by decide) (fun _ => rfl) (fun x14 ex14 => ?_)
                refine g_goto C (pc := 79) 39 dX5_pegs_79 (by decide) ?_
                refine g_sub [2, 3, 4, 1, 0] rfl ?_
                exact ih M11 v6 x14 hz11 (by rw [ex14]; exact lp_dec c8 hmu)
            · refine g_iload_n C (pc := 51) dX5_pegs_51 2 rfl ?_
              refine g_iconst C (pc := 52) dX5_pegs_52 cI_1 ?_
              refine g_icmp_ne C (pc := 53) 82 dX5_pegs_53 (by decide) (fun c15 => ?_) (fun c15 => ?_)
              · refine g_iload C (pc := 82) dX5_pegs_82 3 rfl ?_
                exact r_ei C rfl dX5_pegs_84 hz7
              · refine g_aload_n C (pc := 56) dX5_pegs_56 0 rfl ?_
                refine g_iconst C (pc := 57) dX5_pegs_57 cI_1 ?_
                refine g_iload C (pc := 58) dX5_pegs_58 4 rfl ?_
                refine g_iload_n C (pc := 60) dX5_pegs_60 1 rfl ?_
                refine g_Vei C (pc := 61) (As := [.int 1, .int v6, .int p0]) (kX5_freshBy l D cA T h M7 1 v6 p0 hz7 (in_p 1 15 (by decide)) (ne6 (by decide))) (v_id (modW cA h) M7 10 (fun _ => rfl) rfl) gX5_pegs_X5_freshBy rfl ⟨rfl, rfl⟩ ⟨Nat.le_of_ble_eq_true rfl, Nat.le_of_ble_eq_true rfl⟩ ⟨Nat.zero_le _, Nat.zero_le _⟩ rfl (Nat.le_of_ble_eq_true rfl) hdV_X5_freshBy 0 rfl rfl rfl dX5_pegs_61 (fun z16 ez16 hz_z16 => ?_)
                refine g_nmW (modW cA h) (fun M17 eM17 => ?_)
                have hz17 : (Zmod M17) := by rw [eM17]; exact hz_z16
                refine g_if_le C (pc := 64) 72 dX5_pegs_64 (by decide) (fun c18 => ?_) (fun c18 => ?_)
                · refine g_iload C (pc := 72) dX5_pegs_72 3 rfl ?_
                  refine g_istore C (pc := 74) [(4, .int v5), (0, .ref (h 0)), (1, .int p0), (2, .int p1), (5, .int v6)] dX5_pegs_74 (by decide) rfl ?_
                  refine g_iincN C (pc := 76) 1 (fun y => [(5, .int y), (4, .int v5), (0, .ref (h 0)), (1, .int p0), (2, .int p1)]) dX5_pegs_76 4 rfl cI_1 (by decide) (fun _ => rfl) (fun x19 ex19 => ?_)
                  refine g_goto C (pc := 79) 39 dX5_pegs_79 (by decide) ?_
                  refine g_sub [2, 3, 4, 1, 0] rfl ?_
                  exact ih M17 v5 x19 hz17 (by rw [ex19]; exact lp_dec c8 hmu)
                · refine g_iload C (pc := 67) dX5_pegs_67 4 rfl ?_
                  refine g_goto C (pc := 69) 74 dX5_pegs_69 (by decide) ?_
                  refine g_istore C (pc := 74) [(4, .int v6), (0, .ref (h 0)), (1, .int p0), (2, .int p1), (5, .int v6)] dX5_pegs_74 (by decide) rfl ?_
                  refine g_iincN C (pc := 76) 1 (fun y => [(5, .int y), (4, .int v6), (0, .ref (h 0)), (1, .int p0), (2, .int p1)]) dX5_pegs_76 4 rfl cI_1 (by decide) (fun _ => rfl) (fun x20 ex20 => ?_)
                  refine g_goto C (pc := 79) 39 dX5_pegs_79 (by decide) ?_
                  refine g_sub [2, 3, 4, 1, 0] rfl ?_
                  exact ih M17 v6 x20 hz17 (by rw [ex20]; exact lp_dec c8 hmu)
      refine g_sub [3, 4, 5, 1, 0] rfl ?_
      exact L39 _ M x4 1 hz (Nat.lt_succ_self _)
    · refine g_aload_n C (pc := 26) dX5_pegs_26 1 rfl ?_
      refine g_iload_n C (pc := 27) dX5_pegs_27 0 rfl ?_
      refine g_Vei C (pc := 28) (As := [.int v2]) (kX5_refuse l D cA T h M v2 hz (rf_vp (rf_of (by rw [ev2]; (repeat' split) <;> first | exact rf0_c (by decide) | exact rf0_within _ _ _ | exact rf0_wrongRun _ _ | exact rf0_wrongSorts _ _) c3))) (v_id (modW cA h) M 10 (fun _ => rfl) rfl) gX5_pegs_X5_refuse rfl ⟨rfl, rfl⟩ ⟨Nat.le_of_ble_eq_true rfl, Nat.le_of_ble_eq_true rfl⟩ ⟨Nat.zero_le _, Nat.zero_le _⟩ rfl (Nat.le_of_ble_eq_true rfl) hdV_X5_refuse 0 rfl rfl rfl dX5_pegs_28 (fun z21 ez21 hz_z21 => ?_)
      refine g_nmW (modW cA h) (fun M22 eM22 => ?_)
      have hz22 : (Zmod M22) := by rw [eM22]; exact hz_z21
      exact r_ei C rfl dX5_pegs_31 hz22
  · refine g_if_ne0 C (pc := 5) 13 dX5_pegs_5 (by decide) (fun c1 => ?_) (fun c1 => ?_)
    · refine g_iload_n C (pc := 13) dX5_pegs_13 1 rfl ?_
      refine g_iconst C (pc := 14) dX5_pegs_14 cI_1 ?_
      refine g_sipush C (pc := 15) dX5_pegs_15 cS_1000 ?_
      refine g_Spi C (pc := 18) (As := [.int p0, .int 1, .int 1000]) (kX5_within l D cA T p0 1 1000) (v_none (modW cA h M) 10 rfl rfl) gX5_pegs_X5_within rfl ⟨rfl, rfl⟩ ⟨Nat.le_of_ble_eq_true rfl, Nat.le_of_ble_eq_true rfl⟩ ⟨Nat.zero_le _, Nat.zero_le _⟩ rfl (Nat.le_of_ble_eq_true rfl) hdS_X5_within rfl dX5_pegs_18 ?_
      refine g_sub [0, 1, 2] rfl ?_
      exact g_lf (if_neg c1) (Jv2 _ (Eq.symm (if_neg c1)))
    · refine g_bipush C (pc := 8) dX5_pegs_8 cB_m2 ?_
      refine g_goto C (pc := 10) 21 dX5_pegs_10 (by decide) ?_
      refine g_sub [0, 1, 2] rfl ?_
      exact g_lf (if_pos c1) (Jv2 _ (Eq.symm (if_pos c1)))
theorem inX5_widest_5 : ∀ w ∈ u_ws RX5 TX5 14, w ∈ wsX5_widest := by decide +kernel
noncomputable def xX5_widest_l58 : Nat → St → Int32 → Int32 → Int32 → Int32 → Int32 → Int32 → Int32 → St × Int32
  | 0, M23, _, _, _, _, _, _, _ => (M23, 0)
  | k + 1, M23, p0, x3, v5, v6, v7, v21, v22 => if 100 ≤ v22 then ((M23, v21)) else (nm (xX5_freshBy M23 8 v22 p0) fun z25 => nm (z25.2) fun M26 => nm (if z25.1 ≤ 0 then (0) else (1) : Int32) fun v28 => nm ((v21 + v28) : Int32) fun x29 => nm (v22 + 10 : Int32) fun x30 => xX5_widest_l58 k M26 p0 x3 v5 v6 v7 x29 x30)
noncomputable def xX5_widest_l37 : Nat → St → Int32 → Int32 → Int32 → Int32 → Int32 → Int32 × St
  | 0, M8, _, _, _, _, _ => (0, M8)
  | k + 1, M8, p0, x3, v5, v6, v7 => if 100 ≤ v7 then (nm (sa M8 2 (up (M8 2) 1 x3)) fun M10 => (v5, M10)) else (nm (sa M8 2 (up (M8 2) 1 v7)) fun M11 => nm (xX5_widest_l58 (mu 0 100 + 1) M11 p0 x3 v5 v6 v7 0 0 : St × Int32) fun w12 => nm (w12.1) fun M13 => if v5 < 0 then (nm (w12.2 : Int32) fun x15 => nm (v7 + 10 : Int32) fun x16 => xX5_widest_l37 k M13 p0 x3 v7 x15 x16) else (if v6 < w12.2 then (nm (w12.2 : Int32) fun x18 => nm (v7 + 10 : Int32) fun x19 => xX5_widest_l37 k M13 p0 x3 v7 x18 x19) else (nm (v7 + 10 : Int32) fun x20 => xX5_widest_l37 k M13 p0 x3 v5 v6 x20)))
noncomputable def xX5_widest (M : St) (p0 : Int32) : Int32 × St := nm ((xX5_within p0 1 1000) : Int32) fun x1 => if x1 = 0 then (nm ((M 2 1) : Int32) fun x3 => nm ((-9) : Int32) fun x4 => xX5_widest_l37 (mu 10 100 + 1) M p0 x3 x4 0 10) else (nm (xX5_refuse M x1) fun z31 => nm (z31.2) fun M32 => (z31.1, M32))
set_option maxHeartbeats 4000000 in
set_option maxRecDepth 100000 in
theorem kX5_widest (l : Launch) (D : va_G) (cA : ClassId) (T : Nat × Nat × Nat) (h : Nat → Nat) (M : St) (p0 : Int32) (hz : (Zmod M)) : ∀ sz : Nat, Met l yX5_widest wsX5_widest { frames := 5, cells := 0, slots := 0, locals := 118 } (va_Pc [.ref (h 0), .int p0] (PreW D cA T (modW cA h M) sz)) (va_Qi (fun r u => (r, u) = (xX5_widest M p0) ∧ (Zmod) u) (fun u => PostW D cA (va_A (modW cA h M) sz) (modW cA h u)) (va_A (modW cA h M) sz)) 0 0 (va_A (modW cA h M) sz) := by
  refine m_ei (Wf := modW cA h) (inv := (Zmod)) (cc := cX5_widest) (maxL := 9) (own := RX5) (by decide) rfl rfl (Nat.le_of_ble_eq_true rfl) (fun {p e s m args below meth c} A C X => ?_)
  show G p l e { frames := 5, cells := 0, slots := 0, locals := 118 } s m args below meth c 0 0 D A (Qei below D cA A args s 0 0 (modW cA h) (Zmod) X) 9 X (xX5_widest M p0) (modW cA h M) 0 [(0, .ref (h 0)), (1, .int p0)] []
  unfold xX5_widest
  refine g_iload_n C (pc := 0) dX5_widest_0 1 rfl ?_
  refine g_iconst C (pc := 1) dX5_widest_1 cI_1 ?_
  refine g_sipush C (pc := 2) dX5_widest_2 cS_1000 ?_
  refine g_Spi C (pc := 5) (As := [.int p0, .int 1, .int 1000]) (kX5_within l D cA T p0 1 1000) (v_none (modW cA h M) 10 rfl rfl) gX5_widest_X5_within rfl ⟨rfl, rfl⟩ ⟨Nat.le_of_ble_eq_true rfl, Nat.le_of_ble_eq_true rfl⟩ ⟨Nat.zero_le _, Nat.zero_le _⟩ rfl (Nat.le_of_ble_eq_true rfl) hdS_X5_within rfl dX5_widest_5 ?_
  refine g_nmi (fun x1 ex1 => ?_)
  refine g_istore_n C (pc := 8) [(2, .int x1), (0, .ref (h 0)), (1, .int p0)] dX5_widest_8 (by decide) rfl ?_
  refine g_iload_n C (pc := 9) dX5_widest_9 0 rfl ?_
  refine g_if_eq C (pc := 10) 19 dX5_widest_10 (by decide) (fun c2 => ?_) (fun c2 => ?_)
  · refine g_aload_n C (pc := 19) dX5_widest_19 1 rfl ?_
    refine g_get C (pc := 20) inX5_widest_5 rfl 1 (by decide) (List.mem_of_getElem? (i := 1) rfl) dX5_widest_20 0 rfl (.ref (h 2)) rfl ?_
    refine g_iconst C (pc := 23) dX5_widest_23 cI_1 ?_
    refine g_iald C (pc := 24) dX5_widest_24 2 rfl inb_1_151 (M 2 1) (congrArg (M 2) tn_1) ?_
    refine g_nmi (fun x3 ex3 => ?_)
    refine g_istore_n C (pc := 25) [(3, .int x3), (2, .int x1), (0, .ref (h 0)), (1, .int p0)] dX5_widest_25 (by decide) rfl ?_
    refine g_bipush C (pc := 26) dX5_widest_26 cB_m9 ?_
    refine g_nmi (fun x4 ex4 => ?_)
    refine g_istore C (pc := 28) [(4, .int x4), (3, .int x3), (2, .int x1), (0, .ref (h 0)), (1, .int p0)] dX5_widest_28 (by decide) rfl ?_
    refine g_iconst C (pc := 30) dX5_widest_30 cI_0 ?_
    refine g_istore C (pc := 31) [(5, .int 0), (4, .int x4), (3, .int x3), (2, .int x1), (0, .ref (h 0)), (1, .int p0)] dX5_widest_31 (by decide) rfl ?_
    refine g_bipush C (pc := 33) dX5_widest_33 cB_10 ?_
    refine g_istore C (pc := 35) [(6, .int 10), (5, .int 0), (4, .int x4), (3, .int x3), (2, .int x1), (0, .ref (h 0)), (1, .int p0)] dX5_widest_35 (by decide) rfl ?_
    have L37 : ∀ (k : Nat) (M8 : St) (v5 : Int32) (v6 : Int32) (v7 : Int32), (Zmod M8) → mu v7 100 < k → G p l e { frames := 5, cells := 0, slots := 0, locals := 118 } s m args below meth c 0 0 D A (Qei below D cA A args s 0 0 (modW cA h) (Zmod) X) 9 X (xX5_widest_l37 k M8 p0 x3 v5 v6 v7) (modW cA h M8) 37 [(0, .ref (h 0)), (1, .int p0), (3, .int x3), (4, .int v5), (5, .int v6), (6, .int v7)] [] := by
      intro k
      induction k with
      | zero => intro M8 v5 v6 v7 hz8 hmu; exact absurd hmu (Nat.not_lt_zero _)
      | succ k ih =>
        intro M8 v5 v6 v7 hz8 hmu
        rw [xX5_widest_l37]
        refine g_iload C (pc := 37) dX5_widest_37 5 rfl ?_
        refine g_bipush C (pc := 39) dX5_widest_39 cB_100 ?_
        refine g_icmp_ge C (pc := 41) 122 dX5_widest_41 (by decide) (fun c9 => ?_) (fun c9 => ?_)
        · refine g_aload_n C (pc := 122) dX5_widest_122 0 rfl ?_
          refine g_get C (pc := 123) inX5_widest_5 rfl 1 (by decide) (List.mem_of_getElem? (i := 1) rfl) dX5_widest_123 0 rfl (.ref (h 2)) rfl ?_
          refine g_iconst C (pc := 126) dX5_widest_126 cI_1 ?_
          refine g_iload_n C (pc := 127) dX5_widest_127 2 rfl ?_
          refine g_iast C (pc := 128) dX5_widest_128 2 rfl inb_1_151 (1) tn_1 (modW cA h) (sa M8 2 (up (M8 2) 1 x3)) rfl (fun M10 eM10 => ?_)
          have hz10 : (Zmod M10) := by rw [eM10]; exact hz8
          refine g_iload C (pc := 129) dX5_widest_129 3 rfl ?_
          exact r_ei C rfl dX5_widest_131 hz10
        · refine g_aload_n C (pc := 44) dX5_widest_44 0 rfl ?_
          refine g_get C (pc := 45) inX5_widest_5 rfl 1 (by decide) (List.mem_of_getElem? (i := 1) rfl) dX5_widest_45 0 rfl (.ref (h 2)) rfl ?_
          refine g_iconst C (pc := 48) dX5_widest_48 cI_1 ?_
          refine g_iload C (pc := 49) dX5_widest_49 5 rfl ?_
          refine g_iast C (pc := 51) dX5_widest_51 2 rfl inb_1_151 (1) tn_1 (modW cA h) (sa M8 2 (up (M8 2) 1 v7)) rfl (fun M11 eM11 => ?_)
          have hz11 : (Zmod M11) := by rw [eM11]; exact hz8
          refine g_iconst C (pc := 52) dX5_widest_52 cI_0 ?_
          refine g_istore C (pc := 53) [(7, .int 0), (0, .ref (h 0)), (1, .int p0), (3, .int x3), (4, .int v5), (5, .int v6), (6, .int v7)] dX5_widest_53 (by decide) rfl ?_
          refine g_iconst C (pc := 55) dX5_widest_55 cI_0 ?_
          refine g_istore C (pc := 56) [(8, .int 0), (7, .int 0), (0, .ref (h 0)), (1, .int p0), (3, .int x3), (4, .int v5), (5, .int v6), (6, .int v7)] dX5_widest_56 (by decide) rfl ?_
          refine g_inner (σ := St × Int32) (fun w12 : St × Int32 => (modW cA h w12.1)) (fun w12 => [(0, .ref (h 0)), (1, .int p0), (3, .int x3), (4, .int v5), (5, .int v6), (6, .int v7), (7, .int (w12.2))]) 93 (fun w12 : St × Int32 => (Zmod w12.1)) (fun w12 ew12 hw12 => ?_) (fun X12 Jw12 => ?_)
          · refine g_nmW (modW cA h) (fun M13 eM13 => ?_)
            have hz13 : (Zmod M13) := by rw [eM13]; exact hw12
            refine g_iload C (pc := 93) dX5_widest_93 3 rfl ?_
            refine g_if_lt C (pc := 95) 108 dX5_widest_95 (by decide) (fun c14 => ?_) (fun c14 => ?_)
            · refine g_iload C (pc := 108) dX5_widest_108 5 rfl ?_
              refine g_istore C (pc := 110) [(4, .int v7), (0, .ref (h 0)), (1, .int p0), (3, .int x3), (5, .int v6), (6, .int v7), (7, .int (w12.2))] dX5_widest_110 (by decide) rfl ?_
              refine g_iload C (pc := 112) dX5_widest_112 6 rfl ?_
              refine g_nmi (fun x15 ex15 => ?_)
              refine g_istore C (pc := 114) [(5, .int x15), (4, .int v7), (0, .ref (h 0)), (1, .int p0), (3, .int x3), (6, .int v7), (7, .int (w12.2))] dX5_widest_114 (by decide) rfl ?_
              refine g_iincN C (pc := 116) 10 (fun y => [(6, .int y), (5, .int x15), (4, .int v7), (0, .ref (h 0)), (1, .int p0), (3, .int x3), (7, .int (w12.2))]) dX5_widest_116 5 rfl cI_10 (by decide) (fun _ => rfl) (fun x16 ex16 => ?_)
              refine g_goto C (pc := 119) 37 dX5_widest_119 (by decide) ?_
              refine g_sub [3, 4, 5, 2, 1, 0] rfl ?_
              exact ih M13 v7 x15 x16 hz13 (by rw [ex16]; exact lp_decS (d := 10) (by decide) (by decide) c9 hmu)
            · refine g_iload C (pc := 98) dX5_widest_98 6 rfl ?_
              refine g_iload C (pc := 100) dX5_widest_100 4 rfl ?_
              refine g_icmp_gt C (pc := 102) 108 dX5_widest_102 (by decide) (fun c17 => ?_) (fun c17 => ?_)
              · refine g_iload C (pc := 108) dX5_widest_108 5 rfl ?_
                refine g_istore C (pc := 110) [(4, .int v7), (0, .ref (h 0)), (1, .int p0), (3, .int x3), (5, .int v6), (6, .int v7), (7, .int (w12.2))] dX5_widest_110 (by decide) rfl ?_
                refine g_iload C (pc := 112) dX5_widest_112 6 rfl ?_
                refine g_nmi (fun x18 ex18 => ?_)
                refine g_istore C (pc := 114) [(5, .int x18), (4, .int v7), (0, .ref (h 0)), (1, .int p0), (3, .int x3), (6, .int v7), (7, .int (w12.2))] dX5_widest_114 (by decide) rfl ?_
                refine g_iincN C (pc := 116) 10 (fun y => [(6, .int y), (5, .int x18), (4, .int v7), (0, .ref (h 0)), (1, .int p0), (3, .int x3), (7, .int (w12.2))]) dX5_widest_116 5 rfl cI_10 (by decide) (fun _ => rfl) (fun x19 ex19 => ?_)
                refine g_goto C (pc := 119) 37 dX5_widest_119 (by decide) ?_
                refine g_sub [3, 4, 5, 2, 1, 0] rfl ?_
                exact ih M13 v7 x18 x19 hz13 (by rw [ex19]; exact lp_decS (d := 10) (by decide) (by decide) c9 hmu)
              · refine g_goto C (pc := 105) 116 dX5_widest_105 (by decide) ?_
                refine g_iincN C (pc := 116) 10 (fun y => [(6, .int y), (0, .ref (h 0)), (1, .int p0), (3, .int x3), (4, .int v5), (5, .int v6), (7, .int (w12.2))]) dX5_widest_116 5 rfl cI_10 (by decide) (fun _ => rfl) (fun x20 ex20 => ?_)
                refine g_goto C (pc := 119) 37 dX5_widest_119 (by decide) ?_
                refine g_sub [1, 2, 3, 4, 5, 0] rfl ?_
                exact ih M13 v5 v6 x20 hz13 (by rw [ex20]; exact lp_decS (d := 10) (by decide) (by decide) c9 hmu)
          · have L58 : ∀ (k : Nat) (M23 : St) (v21 : Int32) (v22 : Int32), (Zmod M23) → mu v22 100 < k → G p l e { frames := 5, cells := 0, slots := 0, locals := 118 } s m args below meth c 0 0 D A (Qei below D cA A args s 0 0 (modW cA h) (Zmod) X) 9 X12 (xX5_widest_l58 k M23 p0 x3 v5 v6 v7 v21 v22) (modW cA h M23) 58 [(0, .ref (h 0)), (1, .int p0), (3, .int x3), (4, .int v5), (5, .int v6), (6, .int v7), (7, .int v21), (8, .int v22)] [] := by
              intro k
              induction k with
              | zero => intro M23 v21 v22 hz23 hmu; exact absurd hmu (Nat.not_lt_zero _)
              | succ k ih =>
                intro M23 v21 v22 hz23 hmu
                rw [xX5_widest_l58]
                refine g_iload C (pc := 58) dX5_widest_58 7 rfl ?_
                refine g_bipush C (pc := 60) dX5_widest_60 cB_100 ?_
                refine g_icmp_ge C (pc := 62) 93 dX5_widest_62 (by decide) (fun c24 => ?_) (fun c24 => ?_)
                · refine g_sub [0, 1, 2, 3, 4, 5, 6] rfl ?_
                  exact Jw12 (M23, v21) hz23
                · refine g_iload C (pc := 65) dX5_widest_65 6 rfl ?_
                  refine g_aload_n C (pc := 67) dX5_widest_67 0 rfl ?_
                  refine g_bipush C (pc := 68) dX5_widest_68 cB_8 ?_
                  refine g_iload C (pc := 70) dX5_widest_70 7 rfl ?_
                  refine g_iload_n C (pc := 72) dX5_widest_72 1 rfl ?_
                  refine g_Vei C (pc := 73) (As := [.int 8, .int v22, .int p0]) (kX5_freshBy l D cA T h M23 8 v22 p0 hz23 (in_p 8 15 (by decide)) (ne6 (by decide))) (v_id (modW cA h) M23 10 (fun _ => rfl) rfl) gX5_widest_X5_freshBy rfl ⟨rfl, rfl⟩ ⟨Nat.le_of_ble_eq_true rfl, Nat.le_of_ble_eq_true rfl⟩ ⟨Nat.zero_le _, Nat.zero_le _⟩ rfl (Nat.le_of_ble_eq_true rfl) hdV_X5_freshBy 0 rfl rfl rfl dX5_widest_73 (fun z25 ez25 hz_z25 => ?_)
                  refine g_nmW (modW cA h) (fun M26 eM26 => ?_)
                  have hz26 : (Zmod M26) := by rw [eM26]; exact hz_z25
                  refine g_join (α := Int32) (fun v28 => [(0, .ref (h 0)), (1, .int p0), (3, .int x3), (4, .int v5), (5, .int v6), (6, .int v7), (8, .int v22)]) (fun v28 => [.int v28, .int v21]) 84 (fun v28 ev28 => ?_) (fun Jv28 => ?_)
                  · refine g_iadd C (pc := 84) dX5_widest_84 ?_
                    refine g_nmi (fun x29 ex29 => ?_)
                    refine g_istore C (pc := 85) [(7, .int x29), (0, .ref (h 0)), (1, .int p0), (3, .int x3), (4, .int v5), (5, .int v6), (6, .int v7), (8, .int v22)] dX5_widest_85 (by decide) rfl ?_
                    refine g_iincN C (pc := 87) 10 (fun y => [(8, .int y), (7, .int x29), (0, .ref (h 0)), (1, .int p0), (3, .int x3), (4, .int v5), (5, .int v6), (6, .int v7)]) dX5_widest_87 7 rfl cI_10 (by decide) (fun _ => rfl) (fun x30 ex30 => ?_)
                    refine g_goto C (pc := 90) 58 dX5_widest_90 (by decide) ?_
                    refine g_sub [2, 3, 4, 5, 6, 7, 1, 0] rfl ?_
                    exact ih M26 x29 x30 hz26 (by rw [ex30]; exact lp_decS (d := 10) (by decide) (by decide) c24 hmu)
                  · refine g_if_le0 C (pc := 76) 83 dX5_widest_76 (by decide) (fun c27 => ?_) (fun c27 => ?_)
                    · refine g_iconst C (pc := 83) dX5_widest_83 cI_0 ?_
                      refine g_sub [0, 1, 2, 3, 4, 5, 7] rfl ?_
                      exact g_lf (if_pos c27) (Jv28 _ (Eq.symm (if_pos c27)))
                    · refine g_iconst C (pc := 79) dX5_widest_79 cI_1 ?_
                      refine g_goto C (pc := 80) 84 dX5_widest_80 (by decide) ?_
                      refine g_sub [0, 1, 2, 3, 4, 5, 7] rfl ?_
                      exact g_lf (if_neg c27) (Jv28 _ (Eq.symm (if_neg c27)))
            refine g_sub [2, 3, 4, 5, 6, 7, 1, 0] rfl ?_
            exact L58 _ M11 0 0 hz11 (Nat.lt_succ_self _)
    refine g_sub [5, 6, 3, 2, 1, 0] rfl ?_
    exact L37 _ M x4 0 10 hz (Nat.lt_succ_self _)
  · refine g_aload_n C (pc := 13) dX5_widest_13 1 rfl ?_
    refine g_iload_n C (pc := 14) dX5_widest_14 0 rfl ?_
    refine g_Vei C (pc := 15) (As := [.int x1]) (kX5_refuse l D cA T h M x1 hz (rf_vp (rf_of (by rw [ex1]; (repeat' split) <;> first | exact rf0_c (by decide) | exact rf0_within _ _ _ | exact rf0_wrongRun _ _ | exact rf0_wrongSorts _ _) c2))) (v_id (modW cA h) M 10 (fun _ => rfl) rfl) gX5_widest_X5_refuse rfl ⟨rfl, rfl⟩ ⟨Nat.le_of_ble_eq_true rfl, Nat.le_of_ble_eq_true rfl⟩ ⟨Nat.zero_le _, Nat.zero_le _⟩ rfl (Nat.le_of_ble_eq_true rfl) hdV_X5_refuse 0 rfl rfl rfl dX5_widest_15 (fun z31 ez31 hz_z31 => ?_)
    refine g_nmW (modW cA h) (fun M32 eM32 => ?_)
    have hz32 : (Zmod M32) := by rw [eM32]; exact hz_z31
    exact r_ei C rfl dX5_widest_18 hz32

noncomputable def xX5_lifts_l24 : Nat → St → Int32 → Int32 → Int32 → Int32 → Int32 × St
  | 0, M6, _, _, _, _ => (0, M6)
  | k + 1, M6, p0, v3, v4, v5 => if 10 ≤ v5 then ((v3, M6)) else (nm (xX5_freshBy M6 5 v5 p0) fun z8 => nm (z8.2) fun M9 => nm ((v5 * z8.1) : Int32) fun x10 => if v4 < x10 then (nm (v5 + 1 : Int32) fun x12 => xX5_lifts_l24 k M9 p0 v5 x10 x12) else (nm (v5 + 1 : Int32) fun x13 => xX5_lifts_l24 k M9 p0 v3 v4 x13))
noncomputable def xX5_lifts (M : St) (p0 : Int32) : Int32 × St := nm ((xX5_wrongRun M p0) : Int32) fun x1 => if x1 = 0 then (xX5_lifts_l24 (mu 1 10 + 1) M p0 0 0 1) else (nm (xX5_refuse M x1) fun z14 => nm (z14.2) fun M15 => (z14.1, M15))
set_option maxHeartbeats 4000000 in
set_option maxRecDepth 100000 in
theorem kX5_lifts (l : Launch) (D : va_G) (cA : ClassId) (T : Nat × Nat × Nat) (h : Nat → Nat) (M : St) (p0 : Int32) (hz : (Zmod M)) : ∀ sz : Nat, Met l yX5_lifts wsX5_lifts { frames := 5, cells := 0, slots := 0, locals := 118 } (va_Pc [.ref (h 0), .int p0] (PreW D cA T (modW cA h M) sz)) (va_Qi (fun r u => (r, u) = (xX5_lifts M p0) ∧ (Zmod) u) (fun u => PostW D cA (va_A (modW cA h M) sz) (modW cA h u)) (va_A (modW cA h M) sz)) 0 0 (va_A (modW cA h M) sz) := by
  refine m_ei (Wf := modW cA h) (inv := (Zmod)) (cc := cX5_lifts) (maxL := 7) (own := RX5) (by decide) rfl rfl (Nat.le_of_ble_eq_true rfl) (fun {p e s m args below meth c} A C X => ?_)
  show G p l e { frames := 5, cells := 0, slots := 0, locals := 118 } s m args below meth c 0 0 D A (Qei below D cA A args s 0 0 (modW cA h) (Zmod) X) 7 X (xX5_lifts M p0) (modW cA h M) 0 [(0, .ref (h 0)), (1, .int p0)] []
  unfold xX5_lifts
  refine g_aload_n C (pc := 0) dX5_lifts_0 0 rfl ?_
  refine g_iload_n C (pc := 1) dX5_lifts_1 1 rfl ?_
  refine g_Vpi C (pc := 2) (As := [.int p0]) (kX5_wrongRun l D cA T h M p0 hz) (v_id (modW cA h) M 10 (fun _ => rfl) rfl) gX5_lifts_X5_wrongRun rfl ⟨rfl, rfl⟩ ⟨Nat.le_of_ble_eq_true rfl, Nat.le_of_ble_eq_true rfl⟩ ⟨Nat.zero_le _, Nat.zero_le _⟩ rfl (Nat.le_of_ble_eq_true rfl) hdV_X5_wrongRun 0 rfl rfl rfl dX5_lifts_2 ?_
  refine g_nmi (fun x1 ex1 => ?_)
  refine g_istore_n C (pc := 5) [(2, .int x1), (0, .ref (h 0)), (1, .int p0)] dX5_lifts_5 (by decide) rfl ?_
  refine g_iload_n C (pc := 6) dX5_lifts_6 0 rfl ?_
  refine g_if_eq C (pc := 7) 16 dX5_lifts_7 (by decide) (fun c2 => ?_) (fun c2 => ?_)
  · refine g_iconst C (pc := 16) dX5_lifts_16 cI_0 ?_
    refine g_istore_n C (pc := 17) [(3, .int 0), (2, .int x1), (0, .ref (h 0)), (1, .int p0)] dX5_lifts_17 (by decide) rfl ?_
    refine g_iconst C (pc := 18) dX5_lifts_18 cI_0 ?_
    refine g_istore C (pc := 19) [(4, .int 0), (3, .int 0), (2, .int x1), (0, .ref (h 0)), (1, .int p0)] dX5_lifts_19 (by decide) rfl ?_
    refine g_iconst C (pc := 21) dX5_lifts_21 cI_1 ?_
    refine g_istore C (pc := 22) [(5, .int 1), (4, .int 0), (3, .int 0), (2, .int x1), (0, .ref (h 0)), (1, .int p0)] dX5_lifts_22 (by decide) rfl ?_
    have L24 : ∀ (k : Nat) (M6 : St) (v3 : Int32) (v4 : Int32) (v5 : Int32), (Zmod M6) → mu v5 10 < k → G p l e { frames := 5, cells := 0, slots := 0, locals := 118 } s m args below meth c 0 0 D A (Qei below D cA A args s 0 0 (modW cA h) (Zmod) X) 7 X (xX5_lifts_l24 k M6 p0 v3 v4 v5) (modW cA h M6) 24 [(0, .ref (h 0)), (1, .int p0), (3, .int v3), (4, .int v4), (5, .int v5)] [] := by
      intro k
      induction k with
      | zero => intro M6 v3 v4 v5 hz6 hmu; exact absurd hmu (Nat.not_lt_zero _)
      | succ k ih =>
        intro M6 v3 v4 v5 hz6 hmu
        rw [xX5_lifts_l24]
        refine g_iload C (pc := 24) dX5_lifts_24 4 rfl ?_
        refine g_bipush C (pc := 26) dX5_lifts_26 cB_10 ?_
        refine g_icmp_ge C (pc := 28) 67 dX5_lifts_28 (by decide) (fun c7 => ?_) (fun c7 => ?_)
        · refine g_iload_n C (pc := 67) dX5_lifts_67 2 rfl ?_
          exact r_ei C rfl dX5_lifts_68 hz6
        · refine g_iload C (pc := 31) dX5_lifts_31 4 rfl ?_
          refine g_aload_n C (pc := 33) dX5_lifts_33 0 rfl ?_
          refine g_iconst C (pc := 34) dX5_lifts_34 cI_5 ?_
          refine g_iload C (pc := 35) dX5_lifts_35 4 rfl ?_
          refine g_iload_n C (pc := 37) dX5_lifts_37 1 rfl ?_
          refine g_Vei C (pc := 38) (As := [.int 5, .int v5, .int p0]) (kX5_freshBy l D cA T h M6 5 v5 p0 hz6 (in_p 5 15 (by decide)) (ne6 (by decide))) (v_id (modW cA h) M6 10 (fun _ => rfl) rfl) gX5_lifts_X5_freshBy rfl ⟨rfl, rfl⟩ ⟨Nat.le_of_ble_eq_true rfl, Nat.le_of_ble_eq_true rfl⟩ ⟨Nat.zero_le _, Nat.zero_le _⟩ rfl (Nat.le_of_ble_eq_true rfl) hdV_X5_freshBy 0 rfl rfl rfl dX5_lifts_38 (fun z8 ez8 hz_z8 => ?_)
          refine g_nmW (modW cA h) (fun M9 eM9 => ?_)
          have hz9 : (Zmod M9) := by rw [eM9]; exact hz_z8
          refine g_imul C (pc := 41) dX5_lifts_41 ?_
          refine g_nmi (fun x10 ex10 => ?_)
          refine g_istore C (pc := 42) [(6, .int x10), (0, .ref (h 0)), (1, .int p0), (3, .int v3), (4, .int v4), (5, .int v5)] dX5_lifts_42 (by decide) rfl ?_
          refine g_iload C (pc := 44) dX5_lifts_44 0 rfl ?_
          refine g_iload C (pc := 46) dX5_lifts_46 4 rfl ?_
          refine g_icmp_gt C (pc := 48) 54 dX5_lifts_48 (by decide) (fun c11 => ?_) (fun c11 => ?_)
          · refine g_iload C (pc := 54) dX5_lifts_54 5 rfl ?_
            refine g_istore_n C (pc := 56) [(3, .int v5), (6, .int x10), (0, .ref (h 0)), (1, .int p0), (4, .int v4), (5, .int v5)] dX5_lifts_56 (by decide) rfl ?_
            refine g_iload C (pc := 57) dX5_lifts_57 1 rfl ?_
            refine g_istore C (pc := 59) [(4, .int x10), (3, .int v5), (6, .int x10), (0, .ref (h 0)), (1, .int p0), (5, .int v5)] dX5_lifts_59 (by decide) rfl ?_
            refine g_iincN C (pc := 61) 1 (fun y => [(5, .int y), (4, .int x10), (3, .int v5), (6, .int x10), (0, .ref (h 0)), (1, .int p0)]) dX5_lifts_61 5 rfl cI_1 (by decide) (fun _ => rfl) (fun x12 ex12 => ?_)
            refine g_goto C (pc := 64) 24 dX5_lifts_64 (by decide) ?_
            refine g_sub [4, 5, 2, 1, 0] rfl ?_
            exact ih M9 v5 x10 x12 hz9 (by rw [ex12]; exact lp_dec c7 hmu)
          · refine g_goto C (pc := 51) 61 dX5_lifts_51 (by decide) ?_
            refine g_iincN C (pc := 61) 1 (fun y => [(5, .int y), (6, .int x10), (0, .ref (h 0)), (1, .int p0), (3, .int v3), (4, .int v4)]) dX5_lifts_61 5 rfl cI_1 (by decide) (fun _ => rfl) (fun x13 ex13 => ?_)
            refine g_goto C (pc := 64) 24 dX5_lifts_64 (by decide) ?_
            refine g_sub [2, 3, 4, 5, 0] rfl ?_
            exact ih M9 v3 v4 x13 hz9 (by rw [ex13]; exact lp_dec c7 hmu)
    refine g_sub [4, 5, 2, 1, 0] rfl ?_
    exact L24 _ M 0 0 1 hz (Nat.lt_succ_self _)
  · refine g_aload_n C (pc := 10) dX5_lifts_10 1 rfl ?_
    refine g_iload_n C (pc := 11) dX5_lifts_11 0 rfl ?_
    refine g_Vei C (pc := 12) (As := [.int x1]) (kX5_refuse l D cA T h M x1 hz (rf_vp (rf_of (by rw [ex1]; (repeat' split) <;> first | exact rf0_c (by decide) | exact rf0_within _ _ _ | exact rf0_wrongRun _ _ | exact rf0_wrongSorts _ _) c2))) (v_id (modW cA h) M 10 (fun _ => rfl) rfl) gX5_lifts_X5_refuse rfl ⟨rfl, rfl⟩ ⟨Nat.le_of_ble_eq_true rfl, Nat.le_of_ble_eq_true rfl⟩ ⟨Nat.zero_le _, Nat.zero_le _⟩ rfl (Nat.le_of_ble_eq_true rfl) hdV_X5_refuse 0 rfl rfl rfl dX5_lifts_12 (fun z14 ez14 hz_z14 => ?_)
    refine g_nmW (modW cA h) (fun M15 eM15 => ?_)
    have hz15 : (Zmod M15) := by rw [eM15]; exact hz_z14
    exact r_ei C rfl dX5_lifts_15 hz15

noncomputable def xX5_under (M : St) : Int32 × St := nm (xX5_freshBy M 12 1 3000) fun z1 => nm (z1.2) fun M2 => (z1.1, M2)
set_option maxHeartbeats 4000000 in
set_option maxRecDepth 100000 in
theorem kX5_under (l : Launch) (D : va_G) (cA : ClassId) (T : Nat × Nat × Nat) (h : Nat → Nat) (M : St) (hz : (Zmod M)) : ∀ sz : Nat, Met l yX5_under wsX5_under { frames := 5, cells := 0, slots := 0, locals := 118 } (va_Pc [.ref (h 0)] (PreW D cA T (modW cA h M) sz)) (va_Qi (fun r u => (r, u) = (xX5_under M) ∧ (Zmod) u) (fun u => PostW D cA (va_A (modW cA h M) sz) (modW cA h u)) (va_A (modW cA h M) sz)) 0 0 (va_A (modW cA h M) sz) := by
  refine m_ei (Wf := modW cA h) (inv := (Zmod)) (cc := cX5_under) (maxL := 1) (own := RX5) (by decide) rfl rfl (Nat.le_of_ble_eq_true rfl) (fun {p e s m args below meth c} A C X => ?_)
  show G p l e { frames := 5, cells := 0, slots := 0, locals := 118 } s m args below meth c 0 0 D A (Qei below D cA A args s 0 0 (modW cA h) (Zmod) X) 1 X (xX5_under M) (modW cA h M) 0 [(0, .ref (h 0))] []
  unfold xX5_under
  refine g_aload_n C (pc := 0) dX5_under_0 0 rfl ?_
  refine g_bipush C (pc := 1) dX5_under_1 cB_12 ?_
  refine g_iconst C (pc := 3) dX5_under_3 cI_1 ?_
  refine g_sipush C (pc := 4) dX5_under_4 cS_3000 ?_
  refine g_Vei C (pc := 7) (As := [.int 12, .int 1, .int 3000]) (kX5_freshBy l D cA T h M 12 1 3000 hz (in_p 12 15 (by decide)) (ne6 (by decide))) (v_id (modW cA h) M 10 (fun _ => rfl) rfl) gX5_under_X5_freshBy rfl ⟨rfl, rfl⟩ ⟨Nat.le_of_ble_eq_true rfl, Nat.le_of_ble_eq_true rfl⟩ ⟨Nat.zero_le _, Nat.zero_le _⟩ rfl (Nat.le_of_ble_eq_true rfl) hdV_X5_freshBy 0 rfl rfl rfl dX5_under_7 (fun z1 ez1 hz_z1 => ?_)
  refine g_nmW (modW cA h) (fun M2 eM2 => ?_)
  have hz2 : (Zmod M2) := by rw [eM2]; exact hz_z1
  exact r_ei C rfl dX5_under_10 hz2
theorem inX5_without_5 : ∀ w ∈ u_ws RX5 TX5 14, w ∈ wsX5_without := by decide +kernel
noncomputable def xX5_without_l18 : Nat → St → Int32 → Int32 → Int32 × St
  | 0, M4, _, _ => (0, M4)
  | k + 1, M4, p0, v3 => if 10 ≤ v3 then (((-9), M4)) else (nm (xX5_fresh M4) fun M6 => nm (sa M6 4 (up (M6 4) 10 v3)) fun M7 => nm (sa M7 4 (up (M7 4) 18 0)) fun M8 => nm (sa M8 4 (up (M8 4) 15 0)) fun M9 => nm (xX5_goesOn (M9 0) (sh 4 M9) p0) fun z10 => nm (put 4 1 z10.2 M9) fun M11 => if z10.1 ≤ 0 then (nm (v3 + 1 : Int32) fun x13 => xX5_without_l18 k M11 p0 x13) else ((v3, M11)))
noncomputable def xX5_without (M : St) (p0 : Int32) : Int32 × St := nm ((xX5_wrongRun M p0) : Int32) fun x1 => if x1 = 0 then (xX5_without_l18 (mu 0 10 + 1) M p0 0) else (nm (xX5_refuse M x1) fun z14 => nm (z14.2) fun M15 => (z14.1, M15))
set_option maxHeartbeats 4000000 in
set_option maxRecDepth 100000 in
theorem kX5_without (l : Launch) (D : va_G) (cA : ClassId) (T : Nat × Nat × Nat) (h : Nat → Nat) (M : St) (p0 : Int32) (hz : (Zmod M)) : ∀ sz : Nat, Met l yX5_without wsX5_without { frames := 4, cells := 0, slots := 0, locals := 94 } (va_Pc [.ref (h 0), .int p0] (PreW D cA T (modW cA h M) sz)) (va_Qi (fun r u => (r, u) = (xX5_without M p0) ∧ (Zmod) u) (fun u => PostW D cA (va_A (modW cA h M) sz) (modW cA h u)) (va_A (modW cA h M) sz)) 0 0 (va_A (modW cA h M) sz) := by
  refine m_ei (Wf := modW cA h) (inv := (Zmod)) (cc := cX5_without) (maxL := 4) (own := RX5) (by decide) rfl rfl (Nat.le_of_ble_eq_true rfl) (fun {p e s m args below meth c} A C X => ?_)
  show G p l e { frames := 4, cells := 0, slots := 0, locals := 94 } s m args below meth c 0 0 D A (Qei below D cA A args s 0 0 (modW cA h) (Zmod) X) 4 X (xX5_without M p0) (modW cA h M) 0 [(0, .ref (h 0)), (1, .int p0)] []
  unfold xX5_without
  refine g_aload_n C (pc := 0) dX5_without_0 0 rfl ?_
  refine g_iload_n C (pc := 1) dX5_without_1 1 rfl ?_
  refine g_Vpi C (pc := 2) (As := [.int p0]) (kX5_wrongRun l D cA T h M p0 hz) (v_id (modW cA h) M 10 (fun _ => rfl) rfl) gX5_without_X5_wrongRun rfl ⟨rfl, rfl⟩ ⟨Nat.le_of_ble_eq_true rfl, Nat.le_of_ble_eq_true rfl⟩ ⟨Nat.zero_le _, Nat.zero_le _⟩ rfl (Nat.le_of_ble_eq_true rfl) hdV_X5_wrongRun 0 rfl rfl rfl dX5_without_2 ?_
  refine g_nmi (fun x1 ex1 => ?_)
  refine g_istore_n C (pc := 5) [(2, .int x1), (0, .ref (h 0)), (1, .int p0)] dX5_without_5 (by decide) rfl ?_
  refine g_iload_n C (pc := 6) dX5_without_6 0 rfl ?_
  refine g_if_eq C (pc := 7) 16 dX5_without_7 (by decide) (fun c2 => ?_) (fun c2 => ?_)
  · refine g_iconst C (pc := 16) dX5_without_16 cI_0 ?_
    refine g_istore_n C (pc := 17) [(3, .int 0), (2, .int x1), (0, .ref (h 0)), (1, .int p0)] dX5_without_17 (by decide) rfl ?_
    have L18 : ∀ (k : Nat) (M4 : St) (v3 : Int32), (Zmod M4) → mu v3 10 < k → G p l e { frames := 4, cells := 0, slots := 0, locals := 94 } s m args below meth c 0 0 D A (Qei below D cA A args s 0 0 (modW cA h) (Zmod) X) 4 X (xX5_without_l18 k M4 p0 v3) (modW cA h M4) 18 [(0, .ref (h 0)), (1, .int p0), (3, .int v3)] [] := by
      intro k
      induction k with
      | zero => intro M4 v3 hz4 hmu; exact absurd hmu (Nat.not_lt_zero _)
      | succ k ih =>
        intro M4 v3 hz4 hmu
        rw [xX5_without_l18]
        refine g_iload_n C (pc := 18) dX5_without_18 2 rfl ?_
        refine g_bipush C (pc := 19) dX5_without_19 cB_10 ?_
        refine g_icmp_ge C (pc := 21) 72 dX5_without_21 (by decide) (fun c5 => ?_) (fun c5 => ?_)
        · refine g_bipush C (pc := 72) dX5_without_72 cB_m9 ?_
          exact r_ei C rfl dX5_without_74 hz4
        · refine g_aload_n C (pc := 24) dX5_without_24 0 rfl ?_
          refine g_Vev C (pc := 25) (As := []) (kX5_fresh l D cA T h M4 hz4) (v_id (modW cA h) M4 10 (fun _ => rfl) rfl) gX5_without_X5_fresh rfl ⟨rfl, rfl⟩ ⟨Nat.le_of_ble_eq_true rfl, Nat.le_of_ble_eq_true rfl⟩ ⟨Nat.zero_le _, Nat.zero_le _⟩ rfl (Nat.le_of_ble_eq_true rfl) hdV_X5_fresh 0 rfl rfl rfl dX5_without_25 (fun M6 eM6 hz_M6 => ?_)
          have hz6 := hz_M6
          have hm := rz_fresh hz4 eM6
          refine g_aload_n C (pc := 28) dX5_without_28 0 rfl ?_
          refine g_get C (pc := 29) inX5_without_5 rfl 3 (by decide) (List.mem_of_getElem? (i := 1) rfl) dX5_without_29 0 rfl (.ref (h 4)) rfl ?_
          refine g_bipush C (pc := 32) dX5_without_32 cB_10 ?_
          refine g_iload_n C (pc := 34) dX5_without_34 2 rfl ?_
          refine g_iast C (pc := 35) dX5_without_35 4 rfl inb_10_151 (10) tn_10 (modW cA h) (sa M6 4 (up (M6 4) 10 v3)) rfl (fun M7 eM7 => ?_)
          have hz7 : (Zmod M7) := by rw [eM7]; exact hz6
          refine g_aload_n C (pc := 36) dX5_without_36 0 rfl ?_
          refine g_get C (pc := 37) inX5_without_5 rfl 3 (by decide) (List.mem_of_getElem? (i := 1) rfl) dX5_without_37 0 rfl (.ref (h 4)) rfl ?_
          refine g_bipush C (pc := 40) dX5_without_40 cB_18 ?_
          refine g_iconst C (pc := 42) dX5_without_42 cI_0 ?_
          refine g_iast C (pc := 43) dX5_without_43 4 rfl inb_18_151 (18) tn_18 (modW cA h) (sa M7 4 (up (M7 4) 18 0)) rfl (fun M8 eM8 => ?_)
          have hz8 : (Zmod M8) := by rw [eM8]; exact hz7
          refine g_aload_n C (pc := 44) dX5_without_44 0 rfl ?_
          refine g_get C (pc := 45) inX5_without_5 rfl 3 (by decide) (List.mem_of_getElem? (i := 1) rfl) dX5_without_45 0 rfl (.ref (h 4)) rfl ?_
          refine g_bipush C (pc := 48) dX5_without_48 cB_15 ?_
          refine g_iconst C (pc := 50) dX5_without_50 cI_0 ?_
          refine g_iast C (pc := 51) dX5_without_51 4 rfl inb_15_151 (15) tn_15 (modW cA h) (sa M8 4 (up (M8 4) 15 0)) rfl (fun M9 eM9 => ?_)
          have hz9 : (Zmod M9) := by rw [eM9]; exact hz8
          refine g_aload_n C (pc := 52) dX5_without_52 0 rfl ?_
          refine g_aload_n C (pc := 53) dX5_without_53 0 rfl ?_
          refine g_get C (pc := 54) inX5_without_5 rfl 3 (by decide) (List.mem_of_getElem? (i := 1) rfl) dX5_without_54 0 rfl (.ref (h 4)) rfl ?_
          refine g_iload_n C (pc := 57) dX5_without_57 1 rfl ?_
          refine g_Vei C (pc := 58) (As := [.ref (h 4), .int p0]) (kX5_goesOn l D cA T h (M9 0) (sh2 0 1 4 h) (sh 4 M9) p0 (by rw [eM9, eM8, eM7]; exact hm)) (v_mod_modk_0_4 cA h M9) gX5_without_X5_goesOn rfl ⟨rfl, rfl⟩ ⟨Nat.le_of_ble_eq_true rfl, Nat.le_of_ble_eq_true rfl⟩ ⟨Nat.zero_le _, Nat.zero_le _⟩ rfl (Nat.le_of_ble_eq_true rfl) hdV_X5_goesOn 0 rfl rfl rfl dX5_without_58 (fun z10 ez10 hz_z10 => ?_)
          refine g_nmW (modW cA h) (fun M11 eM11 => ?_)
          have hz11 : (Zmod M11) := by rw [eM11]; exact hz9
          refine g_if_le C (pc := 61) 66 dX5_without_61 (by decide) (fun c12 => ?_) (fun c12 => ?_)
          · refine g_iincN C (pc := 66) 1 (fun y => [(3, .int y), (0, .ref (h 0)), (1, .int p0)]) dX5_without_66 2 rfl cI_1 (by decide) (fun _ => rfl) (fun x13 ex13 => ?_)
            refine g_goto C (pc := 69) 18 dX5_without_69 (by decide) ?_
            refine g_sub [1, 2, 0] rfl ?_
            exact ih M11 x13 hz11 (by rw [ex13]; exact lp_dec c5 hmu)
          · refine g_iload_n C (pc := 64) dX5_without_64 2 rfl ?_
            exact r_ei C rfl dX5_without_65 hz11
    refine g_sub [2, 3, 0] rfl ?_
    exact L18 _ M 0 hz (Nat.lt_succ_self _)
  · refine g_aload_n C (pc := 10) dX5_without_10 1 rfl ?_
    refine g_iload_n C (pc := 11) dX5_without_11 0 rfl ?_
    refine g_Vei C (pc := 12) (As := [.int x1]) (kX5_refuse l D cA T h M x1 hz (rf_vp (rf_of (by rw [ex1]; (repeat' split) <;> first | exact rf0_c (by decide) | exact rf0_within _ _ _ | exact rf0_wrongRun _ _ | exact rf0_wrongSorts _ _) c2))) (v_id (modW cA h) M 10 (fun _ => rfl) rfl) gX5_without_X5_refuse rfl ⟨rfl, rfl⟩ ⟨Nat.le_of_ble_eq_true rfl, Nat.le_of_ble_eq_true rfl⟩ ⟨Nat.zero_le _, Nat.zero_le _⟩ rfl (Nat.le_of_ble_eq_true rfl) hdV_X5_refuse 0 rfl rfl rfl dX5_without_12 (fun z14 ez14 hz_z14 => ?_)
    refine g_nmW (modW cA h) (fun M15 eM15 => ?_)
    have hz15 : (Zmod M15) := by rw [eM15]; exact hz_z14
    exact r_ei C rfl dX5_without_15 hz15

noncomputable def xX5_larger (M : St) (p0 : Int32) (p1 : Int32) : Int32 × St := nm (if p0 < 1 then ((-4)) else (if 1 ≤ p1 then (if 4 < p0 then ((-6)) else (if p1 ≤ 3000 then (0) else ((-6)))) else ((-4))) : Int32) fun v5 => if v5 = 0 then (nm (xX5_freshBy M 6 p0 p1) fun z7 => nm (z7.2) fun M8 => (z7.1, M8)) else (nm (xX5_refuse M v5) fun z9 => nm (z9.2) fun M10 => (z9.1, M10))
set_option maxHeartbeats 4000000 in
set_option maxRecDepth 100000 in
theorem kX5_larger (l : Launch) (D : va_G) (cA : ClassId) (T : Nat × Nat × Nat) (h : Nat → Nat) (M : St) (p0 : Int32) (p1 : Int32) (hz : (Zmod M)) : ∀ sz : Nat, Met l yX5_larger wsX5_larger { frames := 5, cells := 0, slots := 0, locals := 118 } (va_Pc [.ref (h 0), .int p0, .int p1] (PreW D cA T (modW cA h M) sz)) (va_Qi (fun r u => (r, u) = (xX5_larger M p0 p1) ∧ (Zmod) u) (fun u => PostW D cA (va_A (modW cA h M) sz) (modW cA h u)) (va_A (modW cA h M) sz)) 0 0 (va_A (modW cA h M) sz) := by
  refine m_ei (Wf := modW cA h) (inv := (Zmod)) (cc := cX5_larger) (maxL := 4) (own := RX5) (by decide) rfl rfl (Nat.le_of_ble_eq_true rfl) (fun {p e s m args below meth c} A C X => ?_)
  show G p l e { frames := 5, cells := 0, slots := 0, locals := 118 } s m args below meth c 0 0 D A (Qei below D cA A args s 0 0 (modW cA h) (Zmod) X) 4 X (xX5_larger M p0 p1) (modW cA h M) 0 [(0, .ref (h 0)), (1, .int p0), (2, .int p1)] []
  unfold xX5_larger
  refine g_iload_n C (pc := 0) dX5_larger_0 1 rfl ?_
  refine g_iconst C (pc := 1) dX5_larger_1 cI_1 ?_
  refine g_join (α := Int32) (fun v5 => [(0, .ref (h 0)), (1, .int p0), (2, .int p1)]) (fun v5 => [.int v5]) 33 (fun v5 ev5 => ?_) (fun Jv5 => ?_)
  · refine g_istore_n C (pc := 33) [(3, .int v5), (0, .ref (h 0)), (1, .int p0), (2, .int p1)] dX5_larger_33 (by decide) rfl ?_
    refine g_iload_n C (pc := 34) dX5_larger_34 0 rfl ?_
    refine g_if_eq C (pc := 35) 46 dX5_larger_35 (by decide) (fun c6 => ?_) (fun c6 => ?_)
    · refine g_aload_n C (pc := 46) dX5_larger_46 1 rfl ?_
      refine g_bipush C (pc := 47) dX5_larger_47 cB_6 ?_
      refine g_iload_n C (pc := 49) dX5_larger_49 2 rfl ?_
      refine g_iload_n C (pc := 50) dX5_larger_50 3 rfl ?_
      refine g_Vei C (pc := 51) (As := [.int 6, .int p0, .int p1]) (kX5_freshBy l D cA T h M 6 p0 p1 hz (in_p 6 15 (by decide)) (fun _ => lg_hq ev5 c6)) (v_id (modW cA h) M 10 (fun _ => rfl) rfl) gX5_larger_X5_freshBy rfl ⟨rfl, rfl⟩ ⟨Nat.le_of_ble_eq_true rfl, Nat.le_of_ble_eq_true rfl⟩ ⟨Nat.zero_le _, Nat.zero_le _⟩ rfl (Nat.le_of_ble_eq_true rfl) hdV_X5_freshBy 0 rfl rfl rfl dX5_larger_51 (fun z7 ez7 hz_z7 => ?_)
      refine g_nmW (modW cA h) (fun M8 eM8 => ?_)
      have hz8 : (Zmod M8) := by rw [eM8]; exact hz_z7
      exact r_ei C rfl dX5_larger_54 hz8
    · refine g_aload_n C (pc := 38) dX5_larger_38 1 rfl ?_
      refine g_iload_n C (pc := 39) dX5_larger_39 0 rfl ?_
      refine g_Vei C (pc := 40) (As := [.int v5]) (kX5_refuse l D cA T h M v5 hz (rf_vp (rf_of (by rw [ev5]; (repeat' split) <;> first | exact rf0_c (by decide) | exact rf0_within _ _ _ | exact rf0_wrongRun _ _ | exact rf0_wrongSorts _ _) c6))) (v_id (modW cA h) M 10 (fun _ => rfl) rfl) gX5_larger_X5_refuse rfl ⟨rfl, rfl⟩ ⟨Nat.le_of_ble_eq_true rfl, Nat.le_of_ble_eq_true rfl⟩ ⟨Nat.zero_le _, Nat.zero_le _⟩ rfl (Nat.le_of_ble_eq_true rfl) hdV_X5_refuse 0 rfl rfl rfl dX5_larger_40 (fun z9 ez9 hz_z9 => ?_)
      refine g_nmW (modW cA h) (fun M10 eM10 => ?_)
      have hz10 : (Zmod M10) := by rw [eM10]; exact hz_z9
      refine g_goto C (pc := 43) 54 dX5_larger_43 (by decide) ?_
      exact r_ei C rfl dX5_larger_54 hz10
  · refine g_icmp_lt0 C (pc := 2) 10 dX5_larger_2 (by decide) (fun c1 => ?_) (fun c1 => ?_)
    · refine g_bipush C (pc := 10) dX5_larger_10 cB_m4 ?_
      refine g_goto C (pc := 12) 33 dX5_larger_12 (by decide) ?_
      refine g_sub [0, 1, 2] rfl ?_
      exact g_lf (if_pos c1) (Jv5 _ (Eq.symm (if_pos c1)))
    · refine g_iload_n C (pc := 5) dX5_larger_5 2 rfl ?_
      refine g_iconst C (pc := 6) dX5_larger_6 cI_1 ?_
      refine g_icmp_ge0 C (pc := 7) 15 dX5_larger_7 (by decide) (fun c2 => ?_) (fun c2 => ?_)
      · refine g_iload_n C (pc := 15) dX5_larger_15 1 rfl ?_
        refine g_iconst C (pc := 16) dX5_larger_16 cI_4 ?_
        refine g_icmp_gt0 C (pc := 17) 27 dX5_larger_17 (by decide) (fun c3 => ?_) (fun c3 => ?_)
        · refine g_bipush C (pc := 27) dX5_larger_27 cB_m6 ?_
          refine g_goto C (pc := 29) 33 dX5_larger_29 (by decide) ?_
          refine g_sub [0, 1, 2] rfl ?_
          exact g_lf (((if_neg c1).trans (if_pos c2)).trans (if_pos c3)) (Jv5 _ (Eq.symm (((if_neg c1).trans (if_pos c2)).trans (if_pos c3))))
        · refine g_iload_n C (pc := 20) dX5_larger_20 2 rfl ?_
          refine g_sipush C (pc := 21) dX5_larger_21 cS_3000 ?_
          refine g_icmp_le0 C (pc := 24) 32 dX5_larger_24 (by decide) (fun c4 => ?_) (fun c4 => ?_)
          · refine g_iconst C (pc := 32) dX5_larger_32 cI_0 ?_
            refine g_sub [0, 1, 2] rfl ?_
            exact g_lf ((((if_neg c1).trans (if_pos c2)).trans (if_neg c3)).trans (if_pos c4)) (Jv5 _ (Eq.symm ((((if_neg c1).trans (if_pos c2)).trans (if_neg c3)).trans (if_pos c4))))
          · refine g_bipush C (pc := 27) dX5_larger_27 cB_m6 ?_
            refine g_goto C (pc := 29) 33 dX5_larger_29 (by decide) ?_
            refine g_sub [0, 1, 2] rfl ?_
            exact g_lf ((((if_neg c1).trans (if_pos c2)).trans (if_neg c3)).trans (if_neg c4)) (Jv5 _ (Eq.symm ((((if_neg c1).trans (if_pos c2)).trans (if_neg c3)).trans (if_neg c4))))
      · refine g_bipush C (pc := 10) dX5_larger_10 cB_m4 ?_
        refine g_goto C (pc := 12) 33 dX5_larger_12 (by decide) ?_
        refine g_sub [0, 1, 2] rfl ?_
        exact g_lf ((if_neg c1).trans (if_neg c2)) (Jv5 _ (Eq.symm ((if_neg c1).trans (if_neg c2))))
theorem inX5_together_5 : ∀ w ∈ u_ws RX5 TX5 14, w ∈ wsX5_together := by decide +kernel
noncomputable def xX5_together_l50 : Nat → St → Int32 → Int32 × St
  | 0, M9, _ => (0, M9)
  | k + 1, M9, v8 => if 3000 ≤ v8 then (((-9), M9)) else (nm ((M9 4 23) : Int32) fun x11 => nm ((M9 5 23) : Int32) fun x12 => nm (xX5_tenth (M9 0) (sh 4 M9)) fun z13 => nm (put 4 1 z13 M9) fun M14 => nm (xX5_tenth (M14 0) (sh 5 M14)) fun z15 => nm (put 5 1 z15 M14) fun M16 => if (M16 4 23) ≤ x11 then (nm (v8 + 1 : Int32) fun x18 => xX5_together_l50 k M16 x18) else (if (M16 5 23) ≤ x12 then (nm (v8 + 1 : Int32) fun x20 => xX5_together_l50 k M16 x20) else ((v8, M16))))
noncomputable def xX5_together (M : St) (p0 : Int32) : Int32 × St := nm ((xX5_within p0 1 4) : Int32) fun x1 => if x1 = 0 then (nm (xX5_fresh M) fun M3 => nm (xX5_copies (sh2 4 1 5 M3)) fun z4 => nm (put2 4 1 5 1 z4 M3) fun M5 => nm (sa M5 4 (up (M5 4) 6 1)) fun M6 => nm (sa M6 5 (up (M6 5) 6 p0)) fun M7 => xX5_together_l50 (mu 0 3000 + 1) M7 0) else (nm (xX5_refuse M x1) fun z21 => nm (z21.2) fun M22 => (z21.1, M22))
set_option maxHeartbeats 4000000 in
set_option maxRecDepth 100000 in
theorem kX5_together (l : Launch) (D : va_G) (cA : ClassId) (T : Nat × Nat × Nat) (h : Nat → Nat) (M : St) (p0 : Int32) (hz : (Zmod M)) : ∀ sz : Nat, Met l yX5_together wsX5_together { frames := 3, cells := 0, slots := 0, locals := 71 } (va_Pc [.ref (h 0), .int p0] (PreW D cA T (modW cA h M) sz)) (va_Qi (fun r u => (r, u) = (xX5_together M p0) ∧ (Zmod) u) (fun u => PostW D cA (va_A (modW cA h M) sz) (modW cA h u)) (va_A (modW cA h M) sz)) 0 0 (va_A (modW cA h M) sz) := by
  refine m_ei (Wf := modW cA h) (inv := (Zmod)) (cc := cX5_together) (maxL := 6) (own := RX5) (by decide) rfl rfl (Nat.le_of_ble_eq_true rfl) (fun {p e s m args below meth c} A C X => ?_)
  show G p l e { frames := 3, cells := 0, slots := 0, locals := 71 } s m args below meth c 0 0 D A (Qei below D cA A args s 0 0 (modW cA h) (Zmod) X) 6 X (xX5_together M p0) (modW cA h M) 0 [(0, .ref (h 0)), (1, .int p0)] []
  unfold xX5_together
  refine g_iload_n C (pc := 0) dX5_together_0 1 rfl ?_
  refine g_iconst C (pc := 1) dX5_together_1 cI_1 ?_
  refine g_iconst C (pc := 2) dX5_together_2 cI_4 ?_
  refine g_Spi C (pc := 3) (As := [.int p0, .int 1, .int 4]) (kX5_within l D cA T p0 1 4) (v_none (modW cA h M) 10 rfl rfl) gX5_together_X5_within rfl ⟨rfl, rfl⟩ ⟨Nat.le_of_ble_eq_true rfl, Nat.le_of_ble_eq_true rfl⟩ ⟨Nat.zero_le _, Nat.zero_le _⟩ rfl (Nat.le_of_ble_eq_true rfl) hdS_X5_within rfl dX5_together_3 ?_
  refine g_nmi (fun x1 ex1 => ?_)
  refine g_istore_n C (pc := 6) [(2, .int x1), (0, .ref (h 0)), (1, .int p0)] dX5_together_6 (by decide) rfl ?_
  refine g_iload_n C (pc := 7) dX5_together_7 0 rfl ?_
  refine g_if_eq C (pc := 8) 17 dX5_together_8 (by decide) (fun c2 => ?_) (fun c2 => ?_)
  · refine g_aload_n C (pc := 17) dX5_together_17 1 rfl ?_
    refine g_Vev C (pc := 18) (As := []) (kX5_fresh l D cA T h M hz) (v_id (modW cA h) M 10 (fun _ => rfl) rfl) gX5_together_X5_fresh rfl ⟨rfl, rfl⟩ ⟨Nat.le_of_ble_eq_true rfl, Nat.le_of_ble_eq_true rfl⟩ ⟨Nat.zero_le _, Nat.zero_le _⟩ rfl (Nat.le_of_ble_eq_true rfl) hdV_X5_fresh 0 rfl rfl rfl dX5_together_18 (fun M3 eM3 hz_M3 => ?_)
    have hz3 := hz_M3
    have hm := rz_fresh hz eM3
    refine g_aload_n C (pc := 21) dX5_together_21 1 rfl ?_
    refine g_get C (pc := 22) inX5_together_5 rfl 3 (by decide) (List.mem_of_getElem? (i := 1) rfl) dX5_together_22 0 rfl (.ref (h 4)) rfl ?_
    refine g_aload_n C (pc := 25) dX5_together_25 1 rfl ?_
    refine g_get C (pc := 26) inX5_together_5 rfl 4 (by decide) (List.mem_of_getElem? (i := 2) rfl) dX5_together_26 0 rfl (.ref (h 5)) rfl ?_
    refine g_Sev C (pc := 29) (As := [.ref (h 4), .ref (h 5)]) (kX5_copies l D cA T (sh2 4 1 5 h) (sh2 4 1 5 M3) trivial) (v_mod_arr2_4_5 cA h M3) gX5_together_X5_copies rfl ⟨rfl, rfl⟩ ⟨Nat.le_of_ble_eq_true rfl, Nat.le_of_ble_eq_true rfl⟩ ⟨Nat.zero_le _, Nat.zero_le _⟩ rfl (Nat.le_of_ble_eq_true rfl) hdS_X5_copies rfl dX5_together_29 (fun z4 ez4 hz_z4 => ?_)
    refine g_nmW (modW cA h) (fun M5 eM5 => ?_)
    have hz5 : (Zmod M5) := (zp_45 hz3 ez4 eM5)
    have hm4 := (rz_45 hm ez4 eM5).1
    have hm5 := (rz_45 hm ez4 eM5).2
    refine g_aload_n C (pc := 32) dX5_together_32 1 rfl ?_
    refine g_get C (pc := 33) inX5_together_5 rfl 3 (by decide) (List.mem_of_getElem? (i := 1) rfl) dX5_together_33 0 rfl (.ref (h 4)) rfl ?_
    refine g_bipush C (pc := 36) dX5_together_36 cB_6 ?_
    refine g_iconst C (pc := 38) dX5_together_38 cI_1 ?_
    refine g_iast C (pc := 39) dX5_together_39 4 rfl inb_6_151 (6) tn_6 (modW cA h) (sa M5 4 (up (M5 4) 6 1)) rfl (fun M6 eM6 => ?_)
    have hz6 : (Zmod M6) := by rw [eM6]; exact hz5
    refine g_aload_n C (pc := 40) dX5_together_40 1 rfl ?_
    refine g_get C (pc := 41) inX5_together_5 rfl 4 (by decide) (List.mem_of_getElem? (i := 2) rfl) dX5_together_41 0 rfl (.ref (h 5)) rfl ?_
    refine g_bipush C (pc := 44) dX5_together_44 cB_6 ?_
    refine g_iload_n C (pc := 46) dX5_together_46 2 rfl ?_
    refine g_iast C (pc := 47) dX5_together_47 5 rfl inb_6_151 (6) tn_6 (modW cA h) (sa M6 5 (up (M6 5) 6 p0)) rfl (fun M7 eM7 => ?_)
    have hz7 : (Zmod M7) := by rw [eM7]; exact hz6
    refine g_iconst C (pc := 48) dX5_together_48 cI_0 ?_
    refine g_istore_n C (pc := 49) [(3, .int 0), (2, .int x1), (0, .ref (h 0)), (1, .int p0)] dX5_together_49 (by decide) rfl ?_
    have L50 : ∀ (k : Nat) (M9 : St) (v8 : Int32), (Zmod M9) → rz (M9 4) → rz (M9 5) → mu v8 3000 < k → G p l e { frames := 3, cells := 0, slots := 0, locals := 71 } s m args below meth c 0 0 D A (Qei below D cA A args s 0 0 (modW cA h) (Zmod) X) 6 X (xX5_together_l50 k M9 v8) (modW cA h M9) 50 [(0, .ref (h 0)), (3, .int v8)] [] := by
      intro k
      induction k with
      | zero => intro M9 v8 hz9 h4 h5 hmu; exact absurd hmu (Nat.not_lt_zero _)
      | succ k ih =>
        intro M9 v8 hz9 h4 h5 hmu
        rw [xX5_together_l50]
        refine g_iload_n C (pc := 50) dX5_together_50 1 rfl ?_
        refine g_sipush C (pc := 51) dX5_together_51 cS_3000 ?_
        refine g_icmp_ge C (pc := 54) 123 dX5_together_54 (by decide) (fun c10 => ?_) (fun c10 => ?_)
        · refine g_bipush C (pc := 123) dX5_together_123 cB_m9 ?_
          exact r_ei C rfl dX5_together_125 hz9
        · refine g_aload_n C (pc := 57) dX5_together_57 0 rfl ?_
          refine g_get C (pc := 58) inX5_together_5 rfl 3 (by decide) (List.mem_of_getElem? (i := 1) rfl) dX5_together_58 0 rfl (.ref (h 4)) rfl ?_
          refine g_bipush C (pc := 61) dX5_together_61 cB_23 ?_
          refine g_iald C (pc := 63) dX5_together_63 4 rfl inb_23_151 (M9 4 23) (congrArg (M9 4) tn_23) ?_
          refine g_nmi (fun x11 ex11 => ?_)
          refine g_istore C (pc := 64) [(4, .int x11), (0, .ref (h 0)), (3, .int v8)] dX5_together_64 (by decide) rfl ?_
          refine g_aload_n C (pc := 66) dX5_together_66 1 rfl ?_
          refine g_get C (pc := 67) inX5_together_5 rfl 4 (by decide) (List.mem_of_getElem? (i := 2) rfl) dX5_together_67 0 rfl (.ref (h 5)) rfl ?_
          refine g_bipush C (pc := 70) dX5_together_70 cB_23 ?_
          refine g_iald C (pc := 72) dX5_together_72 5 rfl inb_23_151 (M9 5 23) (congrArg (M9 5) tn_23) ?_
          refine g_nmi (fun x12 ex12 => ?_)
          refine g_istore C (pc := 73) [(5, .int x12), (4, .int x11), (0, .ref (h 0)), (3, .int v8)] dX5_together_73 (by decide) rfl ?_
          refine g_aload_n C (pc := 75) dX5_together_75 2 rfl ?_
          refine g_aload_n C (pc := 76) dX5_together_76 2 rfl ?_
          refine g_get C (pc := 77) inX5_together_5 rfl 3 (by decide) (List.mem_of_getElem? (i := 1) rfl) dX5_together_77 0 rfl (.ref (h 4)) rfl ?_
          refine g_Vev C (pc := 80) (As := [.ref (h 4)]) (kX5_tenth l D cA T h (M9 0) (sh2 0 1 4 h) (sh 4 M9) h4) (v_mod_modk_0_4 cA h M9) gX5_together_X5_tenth rfl ⟨rfl, rfl⟩ ⟨Nat.le_of_ble_eq_true rfl, Nat.le_of_ble_eq_true rfl⟩ ⟨Nat.zero_le _, Nat.zero_le _⟩ rfl (Nat.le_of_ble_eq_true rfl) hdV_X5_tenth 0 rfl rfl rfl dX5_together_80 (fun z13 ez13 hz_z13 => ?_)
          refine g_nmW (modW cA h) (fun M14 eM14 => ?_)
          have hz14 : (Zmod M14) := by rw [eM14]; exact hz9
          refine g_aload_n C (pc := 83) dX5_together_83 2 rfl ?_
          refine g_aload_n C (pc := 84) dX5_together_84 2 rfl ?_
          refine g_get C (pc := 85) inX5_together_5 rfl 4 (by decide) (List.mem_of_getElem? (i := 2) rfl) dX5_together_85 0 rfl (.ref (h 5)) rfl ?_
          refine g_Vev C (pc := 88) (As := [.ref (h 5)]) (kX5_tenth l D cA T h (M14 0) (sh2 0 1 5 h) (sh 5 M14) (by rw [eM14]; exact h5)) (v_mod_modk_0_5 cA h M14) gX5_together_X5_tenth rfl ⟨rfl, rfl⟩ ⟨Nat.le_of_ble_eq_true rfl, Nat.le_of_ble_eq_true rfl⟩ ⟨Nat.zero_le _, Nat.zero_le _⟩ rfl (Nat.le_of_ble_eq_true rfl) hdV_X5_tenth 0 rfl rfl rfl dX5_together_88 (fun z15 ez15 hz_z15 => ?_)
          refine g_nmW (modW cA h) (fun M16 eM16 => ?_)
          have hz16 : (Zmod M16) := by rw [eM16]; exact hz14
          refine g_aload_n C (pc := 91) dX5_together_91 2 rfl ?_
          refine g_get C (pc := 92) inX5_together_5 rfl 3 (by decide) (List.mem_of_getElem? (i := 1) rfl) dX5_together_92 0 rfl (.ref (h 4)) rfl ?_
          refine g_bipush C (pc := 95) dX5_together_95 cB_23 ?_
          refine g_iald C (pc := 97) dX5_together_97 4 rfl inb_23_151 (M16 4 23) (congrArg (M16 4) tn_23) ?_
          refine g_iload C (pc := 98) dX5_together_98 1 rfl ?_
          refine g_icmp_le C (pc := 100) 117 dX5_together_100 (by decide) (fun c17 => ?_) (fun c17 => ?_)
          · refine g_iincN C (pc := 117) 1 (fun y => [(3, .int y), (5, .int x12), (4, .int x11), (0, .ref (h 0))]) dX5_together_117 3 rfl cI_1 (by decide) (fun _ => rfl) (fun x18 ex18 => ?_)
            refine g_goto C (pc := 120) 50 dX5_together_120 (by decide) ?_
            refine g_sub [3, 0] rfl ?_
            exact ih M16 x18 hz16 (by rw [eM16, eM14]; exact hz_z13) (by rw [eM16]; exact hz_z15) (by rw [ex18]; exact lp_dec c10 hmu)
          · refine g_aload_n C (pc := 103) dX5_together_103 2 rfl ?_
            refine g_get C (pc := 104) inX5_together_5 rfl 4 (by decide) (List.mem_of_getElem? (i := 2) rfl) dX5_together_104 0 rfl (.ref (h 5)) rfl ?_
            refine g_bipush C (pc := 107) dX5_together_107 cB_23 ?_
            refine g_iald C (pc := 109) dX5_together_109 5 rfl inb_23_151 (M16 5 23) (congrArg (M16 5) tn_23) ?_
            refine g_iload C (pc := 110) dX5_together_110 0 rfl ?_
            refine g_icmp_le C (pc := 112) 117 dX5_together_112 (by decide) (fun c19 => ?_) (fun c19 => ?_)
            · refine g_iincN C (pc := 117) 1 (fun y => [(3, .int y), (5, .int x12), (4, .int x11), (0, .ref (h 0))]) dX5_together_117 3 rfl cI_1 (by decide) (fun _ => rfl) (fun x20 ex20 => ?_)
              refine g_goto C (pc := 120) 50 dX5_together_120 (by decide) ?_
              refine g_sub [3, 0] rfl ?_
              exact ih M16 x20 hz16 (by rw [eM16, eM14]; exact hz_z13) (by rw [eM16]; exact hz_z15) (by rw [ex20]; exact lp_dec c10 hmu)
            · refine g_iload_n C (pc := 115) dX5_together_115 3 rfl ?_
              exact r_ei C rfl dX5_together_116 hz16
    refine g_sub [2, 0] rfl ?_
    exact L50 _ M7 0 hz7 (by rw [eM7, eM6]; exact rz_up hm4 (by decide) (by decide) (fun _ => by decide)) (by rw [eM7, eM6]; exact rz_up hm5 (by decide) (by decide) (fun _ => wi_rng ex1 c2)) (Nat.lt_succ_self _)
  · refine g_aload_n C (pc := 11) dX5_together_11 1 rfl ?_
    refine g_iload_n C (pc := 12) dX5_together_12 0 rfl ?_
    refine g_Vei C (pc := 13) (As := [.int x1]) (kX5_refuse l D cA T h M x1 hz (rf_vp (rf_of (by rw [ex1]; (repeat' split) <;> first | exact rf0_c (by decide) | exact rf0_within _ _ _ | exact rf0_wrongRun _ _ | exact rf0_wrongSorts _ _) c2))) (v_id (modW cA h) M 10 (fun _ => rfl) rfl) gX5_together_X5_refuse rfl ⟨rfl, rfl⟩ ⟨Nat.le_of_ble_eq_true rfl, Nat.le_of_ble_eq_true rfl⟩ ⟨Nat.zero_le _, Nat.zero_le _⟩ rfl (Nat.le_of_ble_eq_true rfl) hdV_X5_refuse 0 rfl rfl rfl dX5_together_13 (fun z21 ez21 hz_z21 => ?_)
    refine g_nmW (modW cA h) (fun M22 eM22 => ?_)
    have hz22 : (Zmod M22) := by rw [eM22]; exact hz_z21
    exact r_ei C rfl dX5_together_16 hz22
theorem inX5_drinks_5 : ∀ w ∈ u_ws RX5 TX5 14, w ∈ wsX5_drinks := by decide +kernel
noncomputable def xX5_drinks (M : St) (p0 : Int32) : Int32 × St := nm ((xX5_wrongRun M p0) : Int32) fun x1 => if x1 = 0 then (nm (xX5_begins M) fun M3 => nm (xX5_goesOn (M3 0) (sh 4 M3) p0) fun z4 => nm (put 4 1 z4.2 M3) fun M5 => nm (z4.1 : Int32) fun x6 => (((M5 2 15) - (M5 4 15)), M5)) else (nm (xX5_refuse M x1) fun z7 => nm (z7.2) fun M8 => (z7.1, M8))
set_option maxHeartbeats 4000000 in
set_option maxRecDepth 100000 in
theorem kX5_drinks (l : Launch) (D : va_G) (cA : ClassId) (T : Nat × Nat × Nat) (h : Nat → Nat) (M : St) (p0 : Int32) (hz : (Zmod M)) : ∀ sz : Nat, Met l yX5_drinks wsX5_drinks { frames := 4, cells := 0, slots := 0, locals := 94 } (va_Pc [.ref (h 0), .int p0] (PreW D cA T (modW cA h M) sz)) (va_Qi (fun r u => (r, u) = (xX5_drinks M p0) ∧ (Zmod) u) (fun u => PostW D cA (va_A (modW cA h M) sz) (modW cA h u)) (va_A (modW cA h M) sz)) 0 0 (va_A (modW cA h M) sz) := by
  refine m_ei (Wf := modW cA h) (inv := (Zmod)) (cc := cX5_drinks) (maxL := 4) (own := RX5) (by decide) rfl rfl (Nat.le_of_ble_eq_true rfl) (fun {p e s m args below meth c} A C X => ?_)
  show G p l e { frames := 4, cells := 0, slots := 0, locals := 94 } s m args below meth c 0 0 D A (Qei below D cA A args s 0 0 (modW cA h) (Zmod) X) 4 X (xX5_drinks M p0) (modW cA h M) 0 [(0, .ref (h 0)), (1, .int p0)] []
  unfold xX5_drinks
  refine g_aload_n C (pc := 0) dX5_drinks_0 0 rfl ?_
  refine g_iload_n C (pc := 1) dX5_drinks_1 1 rfl ?_
  refine g_Vpi C (pc := 2) (As := [.int p0]) (kX5_wrongRun l D cA T h M p0 hz) (v_id (modW cA h) M 10 (fun _ => rfl) rfl) gX5_drinks_X5_wrongRun rfl ⟨rfl, rfl⟩ ⟨Nat.le_of_ble_eq_true rfl, Nat.le_of_ble_eq_true rfl⟩ ⟨Nat.zero_le _, Nat.zero_le _⟩ rfl (Nat.le_of_ble_eq_true rfl) hdV_X5_wrongRun 0 rfl rfl rfl dX5_drinks_2 ?_
  refine g_nmi (fun x1 ex1 => ?_)
  refine g_istore_n C (pc := 5) [(2, .int x1), (0, .ref (h 0)), (1, .int p0)] dX5_drinks_5 (by decide) rfl ?_
  refine g_iload_n C (pc := 6) dX5_drinks_6 0 rfl ?_
  refine g_if_eq C (pc := 7) 16 dX5_drinks_7 (by decide) (fun c2 => ?_) (fun c2 => ?_)
  · refine g_aload_n C (pc := 16) dX5_drinks_16 1 rfl ?_
    refine g_Vev C (pc := 17) (As := []) (kX5_begins l D cA T h M hz) (v_id (modW cA h) M 10 (fun _ => rfl) rfl) gX5_drinks_X5_begins rfl ⟨rfl, rfl⟩ ⟨Nat.le_of_ble_eq_true rfl, Nat.le_of_ble_eq_true rfl⟩ ⟨Nat.zero_le _, Nat.zero_le _⟩ rfl (Nat.le_of_ble_eq_true rfl) hdV_X5_begins 0 rfl rfl rfl dX5_drinks_17 (fun M3 eM3 hz_M3 => ?_)
    have hz3 := hz_M3
    have hm := rz_begins hz eM3
    refine g_aload_n C (pc := 20) dX5_drinks_20 1 rfl ?_
    refine g_aload_n C (pc := 21) dX5_drinks_21 1 rfl ?_
    refine g_get C (pc := 22) inX5_drinks_5 rfl 3 (by decide) (List.mem_of_getElem? (i := 1) rfl) dX5_drinks_22 0 rfl (.ref (h 4)) rfl ?_
    refine g_iload_n C (pc := 25) dX5_drinks_25 2 rfl ?_
    refine g_Vei C (pc := 26) (As := [.ref (h 4), .int p0]) (kX5_goesOn l D cA T h (M3 0) (sh2 0 1 4 h) (sh 4 M3) p0 hm) (v_mod_modk_0_4 cA h M3) gX5_drinks_X5_goesOn rfl ⟨rfl, rfl⟩ ⟨Nat.le_of_ble_eq_true rfl, Nat.le_of_ble_eq_true rfl⟩ ⟨Nat.zero_le _, Nat.zero_le _⟩ rfl (Nat.le_of_ble_eq_true rfl) hdV_X5_goesOn 0 rfl rfl rfl dX5_drinks_26 (fun z4 ez4 hz_z4 => ?_)
    refine g_nmW (modW cA h) (fun M5 eM5 => ?_)
    have hz5 : (Zmod M5) := by rw [eM5]; exact hz3
    refine g_nmi (fun x6 ex6 => ?_)
    refine g_istore_n C (pc := 29) [(3, .int x6), (2, .int x1), (0, .ref (h 0)), (1, .int p0)] dX5_drinks_29 (by decide) rfl ?_
    refine g_aload_n C (pc := 30) dX5_drinks_30 2 rfl ?_
    refine g_get C (pc := 31) inX5_drinks_5 rfl 1 (by decide) (List.mem_of_getElem? (i := 2) rfl) dX5_drinks_31 0 rfl (.ref (h 2)) rfl ?_
    refine g_bipush C (pc := 34) dX5_drinks_34 cB_15 ?_
    refine g_iald C (pc := 36) dX5_drinks_36 2 rfl inb_15_151 (M5 2 15) (congrArg (M5 2) tn_15) ?_
    refine g_aload_n C (pc := 37) dX5_drinks_37 2 rfl ?_
    refine g_get C (pc := 38) inX5_drinks_5 rfl 3 (by decide) (List.mem_of_getElem? (i := 1) rfl) dX5_drinks_38 0 rfl (.ref (h 4)) rfl ?_
    refine g_bipush C (pc := 41) dX5_drinks_41 cB_15 ?_
    refine g_iald C (pc := 43) dX5_drinks_43 4 rfl inb_15_151 (M5 4 15) (congrArg (M5 4) tn_15) ?_
    refine g_isub C (pc := 44) dX5_drinks_44 ?_
    exact r_ei C rfl dX5_drinks_45 hz5
  · refine g_aload_n C (pc := 10) dX5_drinks_10 1 rfl ?_
    refine g_iload_n C (pc := 11) dX5_drinks_11 0 rfl ?_
    refine g_Vei C (pc := 12) (As := [.int x1]) (kX5_refuse l D cA T h M x1 hz (rf_vp (rf_of (by rw [ex1]; (repeat' split) <;> first | exact rf0_c (by decide) | exact rf0_within _ _ _ | exact rf0_wrongRun _ _ | exact rf0_wrongSorts _ _) c2))) (v_id (modW cA h) M 10 (fun _ => rfl) rfl) gX5_drinks_X5_refuse rfl ⟨rfl, rfl⟩ ⟨Nat.le_of_ble_eq_true rfl, Nat.le_of_ble_eq_true rfl⟩ ⟨Nat.zero_le _, Nat.zero_le _⟩ rfl (Nat.le_of_ble_eq_true rfl) hdV_X5_refuse 0 rfl rfl rfl dX5_drinks_12 (fun z7 ez7 hz_z7 => ?_)
    refine g_nmW (modW cA h) (fun M8 eM8 => ?_)
    have hz8 : (Zmod M8) := by rw [eM8]; exact hz_z7
    exact r_ei C rfl dX5_drinks_15 hz8

noncomputable def xX5_bestRoom_l26 : Nat → St → Int32 → Int32 → Int32 → Int32 → Int32 × St
  | 0, M7, _, _, _, _ => (0, M7)
  | k + 1, M7, p0, v4, v5, v6 => if 400 < v6 then ((v4, M7)) else (nm (xX5_freshBy M7 11 v6 p0) fun z9 => nm (z9.2) fun M10 => nm (z9.1 : Int32) fun x11 => if v4 < 0 then (nm (v6 + 50 : Int32) fun x13 => xX5_bestRoom_l26 k M10 p0 v6 x11 x13) else (if v5 < x11 then (nm (v6 + 50 : Int32) fun x15 => xX5_bestRoom_l26 k M10 p0 v6 x11 x15) else (nm (v6 + 50 : Int32) fun x16 => xX5_bestRoom_l26 k M10 p0 v4 v5 x16)))
noncomputable def xX5_bestRoom (M : St) (p0 : Int32) : Int32 × St := nm ((xX5_wrongRun M p0) : Int32) fun x1 => if x1 = 0 then (nm ((-9) : Int32) fun x3 => xX5_bestRoom_l26 (muE 100 400 + 1) M p0 x3 0 100) else (nm (xX5_refuse M x1) fun z17 => nm (z17.2) fun M18 => (z17.1, M18))
set_option maxHeartbeats 4000000 in
set_option maxRecDepth 100000 in
theorem kX5_bestRoom (l : Launch) (D : va_G) (cA : ClassId) (T : Nat × Nat × Nat) (h : Nat → Nat) (M : St) (p0 : Int32) (hz : (Zmod M)) : ∀ sz : Nat, Met l yX5_bestRoom wsX5_bestRoom { frames := 5, cells := 0, slots := 0, locals := 118 } (va_Pc [.ref (h 0), .int p0] (PreW D cA T (modW cA h M) sz)) (va_Qi (fun r u => (r, u) = (xX5_bestRoom M p0) ∧ (Zmod) u) (fun u => PostW D cA (va_A (modW cA h M) sz) (modW cA h u)) (va_A (modW cA h M) sz)) 0 0 (va_A (modW cA h M) sz) := by
  refine m_ei (Wf := modW cA h) (inv := (Zmod)) (cc := cX5_bestRoom) (maxL := 7) (own := RX5) (by decide) rfl rfl (Nat.le_of_ble_eq_true rfl) (fun {p e s m args below meth c} A C X => ?_)
  show G p l e { frames := 5, cells := 0, slots := 0, locals := 118 } s m args below meth c 0 0 D A (Qei below D cA A args s 0 0 (modW cA h) (Zmod) X) 7 X (xX5_bestRoom M p0) (modW cA h M) 0 [(0, .ref (h 0)), (1, .int p0)] []
  unfold xX5_bestRoom
  refine g_aload_n C (pc := 0) dX5_bestRoom_0 0 rfl ?_
  refine g_iload_n C (pc := 1) dX5_bestRoom_1 1 rfl ?_
  refine g_Vpi C (pc := 2) (As := [.int p0]) (kX5_wrongRun l D cA T h M p0 hz) (v_id (modW cA h) M 10 (fun _ => rfl) rfl) gX5_bestRoom_X5_wrongRun rfl ⟨rfl, rfl⟩ ⟨Nat.le_of_ble_eq_true rfl, Nat.le_of_ble_eq_true rfl⟩ ⟨Nat.zero_le _, Nat.zero_le _⟩ rfl (Nat.le_of_ble_eq_true rfl) hdV_X5_wrongRun 0 rfl rfl rfl dX5_bestRoom_2 ?_
  refine g_nmi (fun x1 ex1 => ?_)
  refine g_istore_n C (pc := 5) [(2, .int x1), (0, .ref (h 0)), (1, .int p0)] dX5_bestRoom_5 (by decide) rfl ?_
  refine g_iload_n C (pc := 6) dX5_bestRoom_6 0 rfl ?_
  refine g_if_eq C (pc := 7) 16 dX5_bestRoom_7 (by decide) (fun c2 => ?_) (fun c2 => ?_)
  · refine g_bipush C (pc := 16) dX5_bestRoom_16 cB_m9 ?_
    refine g_nmi (fun x3 ex3 => ?_)
    refine g_istore_n C (pc := 18) [(3, .int x3), (2, .int x1), (0, .ref (h 0)), (1, .int p0)] dX5_bestRoom_18 (by decide) rfl ?_
    refine g_iconst C (pc := 19) dX5_bestRoom_19 cI_0 ?_
    refine g_istore C (pc := 20) [(4, .int 0), (3, .int x3), (2, .int x1), (0, .ref (h 0)), (1, .int p0)] dX5_bestRoom_20 (by decide) rfl ?_
    refine g_bipush C (pc := 22) dX5_bestRoom_22 cB_100 ?_
    refine g_istore C (pc := 24) [(5, .int 100), (4, .int 0), (3, .int x3), (2, .int x1), (0, .ref (h 0)), (1, .int p0)] dX5_bestRoom_24 (by decide) rfl ?_
    have L26 : ∀ (k : Nat) (M7 : St) (v4 : Int32) (v5 : Int32) (v6 : Int32), (Zmod M7) → muE v6 400 < k → G p l e { frames := 5, cells := 0, slots := 0, locals := 118 } s m args below meth c 0 0 D A (Qei below D cA A args s 0 0 (modW cA h) (Zmod) X) 7 X (xX5_bestRoom_l26 k M7 p0 v4 v5 v6) (modW cA h M7) 26 [(0, .ref (h 0)), (1, .int p0), (3, .int v4), (4, .int v5), (5, .int v6)] [] := by
      intro k
      induction k with
      | zero => intro M7 v4 v5 v6 hz7 hmu; exact absurd hmu (Nat.not_lt_zero _)
      | succ k ih =>
        intro M7 v4 v5 v6 hz7 hmu
        rw [xX5_bestRoom_l26]
        refine g_iload C (pc := 26) dX5_bestRoom_26 4 rfl ?_
        refine g_sipush C (pc := 28) dX5_bestRoom_28 cS_400 ?_
        refine g_icmp_gt C (pc := 31) 72 dX5_bestRoom_31 (by decide) (fun c8 => ?_) (fun c8 => ?_)
        · refine g_iload_n C (pc := 72) dX5_bestRoom_72 2 rfl ?_
          exact r_ei C rfl dX5_bestRoom_73 hz7
        · refine g_aload_n C (pc := 34) dX5_bestRoom_34 0 rfl ?_
          refine g_bipush C (pc := 35) dX5_bestRoom_35 cB_11 ?_
          refine g_iload C (pc := 37) dX5_bestRoom_37 4 rfl ?_
          refine g_iload_n C (pc := 39) dX5_bestRoom_39 1 rfl ?_
          refine g_Vei C (pc := 40) (As := [.int 11, .int v6, .int p0]) (kX5_freshBy l D cA T h M7 11 v6 p0 hz7 (in_p 11 15 (by decide)) (ne6 (by decide))) (v_id (modW cA h) M7 10 (fun _ => rfl) rfl) gX5_bestRoom_X5_freshBy rfl ⟨rfl, rfl⟩ ⟨Nat.le_of_ble_eq_true rfl, Nat.le_of_ble_eq_true rfl⟩ ⟨Nat.zero_le _, Nat.zero_le _⟩ rfl (Nat.le_of_ble_eq_true rfl) hdV_X5_freshBy 0 rfl rfl rfl dX5_bestRoom_40 (fun z9 ez9 hz_z9 => ?_)
          refine g_nmW (modW cA h) (fun M10 eM10 => ?_)
          have hz10 : (Zmod M10) := by rw [eM10]; exact hz_z9
          refine g_nmi (fun x11 ex11 => ?_)
          refine g_istore C (pc := 43) [(6, .int x11), (0, .ref (h 0)), (1, .int p0), (3, .int v4), (4, .int v5), (5, .int v6)] dX5_bestRoom_43 (by decide) rfl ?_
          refine g_iload_n C (pc := 45) dX5_bestRoom_45 3 rfl ?_
          refine g_if_lt C (pc := 46) 59 dX5_bestRoom_46 (by decide) (fun c12 => ?_) (fun c12 => ?_)
          · refine g_iload C (pc := 59) dX5_bestRoom_59 5 rfl ?_
            refine g_istore_n C (pc := 61) [(3, .int v6), (6, .int x11), (0, .ref (h 0)), (1, .int p0), (4, .int v5), (5, .int v6)] dX5_bestRoom_61 (by decide) rfl ?_
            refine g_iload C (pc := 62) dX5_bestRoom_62 1 rfl ?_
            refine g_istore C (pc := 64) [(4, .int x11), (3, .int v6), (6, .int x11), (0, .ref (h 0)), (1, .int p0), (5, .int v6)] dX5_bestRoom_64 (by decide) rfl ?_
            refine g_iincN C (pc := 66) 50 (fun y => [(5, .int y), (4, .int x11), (3, .int v6), (6, .int x11), (0, .ref (h 0)), (1, .int p0)]) dX5_bestRoom_66 5 rfl cI_50 (by decide) (fun _ => rfl) (fun x13 ex13 => ?_)
            refine g_goto C (pc := 69) 26 dX5_bestRoom_69 (by decide) ?_
            refine g_sub [4, 5, 2, 1, 0] rfl ?_
            exact ih M10 v6 x11 x13 hz10 (by rw [ex13]; exact lp_decE (d := 50) (by decide) (by decide) c8 hmu)
          · refine g_iload C (pc := 49) dX5_bestRoom_49 0 rfl ?_
            refine g_iload C (pc := 51) dX5_bestRoom_51 4 rfl ?_
            refine g_icmp_gt C (pc := 53) 59 dX5_bestRoom_53 (by decide) (fun c14 => ?_) (fun c14 => ?_)
            · refine g_iload C (pc := 59) dX5_bestRoom_59 5 rfl ?_
              refine g_istore_n C (pc := 61) [(3, .int v6), (6, .int x11), (0, .ref (h 0)), (1, .int p0), (4, .int v5), (5, .int v6)] dX5_bestRoom_61 (by decide) rfl ?_
              refine g_iload C (pc := 62) dX5_bestRoom_62 1 rfl ?_
              refine g_istore C (pc := 64) [(4, .int x11), (3, .int v6), (6, .int x11), (0, .ref (h 0)), (1, .int p0), (5, .int v6)] dX5_bestRoom_64 (by decide) rfl ?_
              refine g_iincN C (pc := 66) 50 (fun y => [(5, .int y), (4, .int x11), (3, .int v6), (6, .int x11), (0, .ref (h 0)), (1, .int p0)]) dX5_bestRoom_66 5 rfl cI_50 (by decide) (fun _ => rfl) (fun x15 ex15 => ?_)
              refine g_goto C (pc := 69) 26 dX5_bestRoom_69 (by decide) ?_
              refine g_sub [4, 5, 2, 1, 0] rfl ?_
              exact ih M10 v6 x11 x15 hz10 (by rw [ex15]; exact lp_decE (d := 50) (by decide) (by decide) c8 hmu)
            · refine g_goto C (pc := 56) 66 dX5_bestRoom_56 (by decide) ?_
              refine g_iincN C (pc := 66) 50 (fun y => [(5, .int y), (6, .int x11), (0, .ref (h 0)), (1, .int p0), (3, .int v4), (4, .int v5)]) dX5_bestRoom_66 5 rfl cI_50 (by decide) (fun _ => rfl) (fun x16 ex16 => ?_)
              refine g_goto C (pc := 69) 26 dX5_bestRoom_69 (by decide) ?_
              refine g_sub [2, 3, 4, 5, 0] rfl ?_
              exact ih M10 v4 v5 x16 hz10 (by rw [ex16]; exact lp_decE (d := 50) (by decide) (by decide) c8 hmu)
    refine g_sub [4, 5, 2, 1, 0] rfl ?_
    exact L26 _ M x3 0 100 hz (Nat.lt_succ_self _)
  · refine g_aload_n C (pc := 10) dX5_bestRoom_10 1 rfl ?_
    refine g_iload_n C (pc := 11) dX5_bestRoom_11 0 rfl ?_
    refine g_Vei C (pc := 12) (As := [.int x1]) (kX5_refuse l D cA T h M x1 hz (rf_vp (rf_of (by rw [ex1]; (repeat' split) <;> first | exact rf0_c (by decide) | exact rf0_within _ _ _ | exact rf0_wrongRun _ _ | exact rf0_wrongSorts _ _) c2))) (v_id (modW cA h) M 10 (fun _ => rfl) rfl) gX5_bestRoom_X5_refuse rfl ⟨rfl, rfl⟩ ⟨Nat.le_of_ble_eq_true rfl, Nat.le_of_ble_eq_true rfl⟩ ⟨Nat.zero_le _, Nat.zero_le _⟩ rfl (Nat.le_of_ble_eq_true rfl) hdV_X5_refuse 0 rfl rfl rfl dX5_bestRoom_12 (fun z17 ez17 hz_z17 => ?_)
    refine g_nmW (modW cA h) (fun M18 eM18 => ?_)
    have hz18 : (Zmod M18) := by rw [eM18]; exact hz_z17
    exact r_ei C rfl dX5_bestRoom_15 hz18
theorem inX5_latest_5 : ∀ w ∈ u_ws RX5 TX5 14, w ∈ wsX5_latest := by decide +kernel
noncomputable def xX5_latest_l52 : Nat → St → Int32 → Int32 → Int32 → Int32 → Int32 → Int32 → St × Int32
  | 0, M21, _, _, _, _, _, _ => (M21, 0)
  | k + 1, M21, p0, v5, v6, v7, v19, v20 => if p0 ≤ v20 then ((M21, v19)) else (nm ((M21 4 23) : Int32) fun x23 => nm (xX5_tenth (M21 0) (sh 4 M21)) fun z24 => nm (put 4 1 z24 M21) fun M25 => if (M25 4 23) ≤ x23 then (nm (v20 + 1 : Int32) fun x27 => xX5_latest_l52 k M25 p0 v5 v6 v7 v19 x27) else (nm (v20 + 1 : Int32) fun x28 => xX5_latest_l52 k M25 p0 v5 v6 v7 v20 x28))
noncomputable def xX5_latest_l26 : Nat → St → Int32 → Int32 → Int32 → Int32 → Int32 × St
  | 0, M8, _, _, _, _ => (0, M8)
  | k + 1, M8, p0, v5, v6, v7 => if 5 ≤ v7 then ((v5, M8)) else (nm (xX5_fresh M8) fun M10 => nm (sa M10 4 (up (M10 4) 6 v7)) fun M11 => nm ((-9) : Int32) fun x12 => nm (xX5_latest_l52 (mu 0 p0 + 1) M11 p0 v5 v6 v7 x12 0 : St × Int32) fun w13 => nm (w13.1) fun M14 => if v6 < w13.2 then (nm (w13.2 : Int32) fun x16 => nm (v7 + 1 : Int32) fun x17 => xX5_latest_l26 k M14 p0 v7 x16 x17) else (nm (v7 + 1 : Int32) fun x18 => xX5_latest_l26 k M14 p0 v5 v6 x18))
noncomputable def xX5_latest (M : St) (p0 : Int32) : Int32 × St := nm ((xX5_wrongRun M p0) : Int32) fun x1 => if x1 = 0 then (nm ((-9) : Int32) fun x3 => nm ((-9) : Int32) fun x4 => xX5_latest_l26 (mu 1 5 + 1) M p0 x3 x4 1) else (nm (xX5_refuse M x1) fun z29 => nm (z29.2) fun M30 => (z29.1, M30))
set_option maxHeartbeats 4000000 in
set_option maxRecDepth 100000 in
theorem kX5_latest (l : Launch) (D : va_G) (cA : ClassId) (T : Nat × Nat × Nat) (h : Nat → Nat) (M : St) (p0 : Int32) (hz : (Zmod M)) : ∀ sz : Nat, Met l yX5_latest wsX5_latest { frames := 3, cells := 0, slots := 0, locals := 71 } (va_Pc [.ref (h 0), .int p0] (PreW D cA T (modW cA h M) sz)) (va_Qi (fun r u => (r, u) = (xX5_latest M p0) ∧ (Zmod) u) (fun u => PostW D cA (va_A (modW cA h M) sz) (modW cA h u)) (va_A (modW cA h M) sz)) 0 0 (va_A (modW cA h M) sz) := by
  refine m_ei (Wf := modW cA h) (inv := (Zmod)) (cc := cX5_latest) (maxL := 9) (own := RX5) (by decide) rfl rfl (Nat.le_of_ble_eq_true rfl) (fun {p e s m args below meth c} A C X => ?_)
  show G p l e { frames := 3, cells := 0, slots := 0, locals := 71 } s m args below meth c 0 0 D A (Qei below D cA A args s 0 0 (modW cA h) (Zmod) X) 9 X (xX5_latest M p0) (modW cA h M) 0 [(0, .ref (h 0)), (1, .int p0)] []
  unfold xX5_latest
  refine g_aload_n C (pc := 0) dX5_latest_0 0 rfl ?_
  refine g_iload_n C (pc := 1) dX5_latest_1 1 rfl ?_
  refine g_Vpi C (pc := 2) (As := [.int p0]) (kX5_wrongRun l D cA T h M p0 hz) (v_id (modW cA h) M 10 (fun _ => rfl) rfl) gX5_latest_X5_wrongRun rfl ⟨rfl, rfl⟩ ⟨Nat.le_of_ble_eq_true rfl, Nat.le_of_ble_eq_true rfl⟩ ⟨Nat.zero_le _, Nat.zero_le _⟩ rfl (Nat.le_of_ble_eq_true rfl) hdV_X5_wrongRun 0 rfl rfl rfl dX5_latest_2 ?_
  refine g_nmi (fun x1 ex1 => ?_)
  refine g_istore_n C (pc := 5) [(2, .int x1), (0, .ref (h 0)), (1, .int p0)] dX5_latest_5 (by decide) rfl ?_
  refine g_iload_n C (pc := 6) dX5_latest_6 0 rfl ?_
  refine g_if_eq C (pc := 7) 16 dX5_latest_7 (by decide) (fun c2 => ?_) (fun c2 => ?_)
  · refine g_bipush C (pc := 16) dX5_latest_16 cB_m9 ?_
    refine g_nmi (fun x3 ex3 => ?_)
    refine g_istore_n C (pc := 18) [(3, .int x3), (2, .int x1), (0, .ref (h 0)), (1, .int p0)] dX5_latest_18 (by decide) rfl ?_
    refine g_bipush C (pc := 19) dX5_latest_19 cB_m9 ?_
    refine g_nmi (fun x4 ex4 => ?_)
    refine g_istore C (pc := 21) [(4, .int x4), (3, .int x3), (2, .int x1), (0, .ref (h 0)), (1, .int p0)] dX5_latest_21 (by decide) rfl ?_
    refine g_iconst C (pc := 23) dX5_latest_23 cI_1 ?_
    refine g_istore C (pc := 24) [(5, .int 1), (4, .int x4), (3, .int x3), (2, .int x1), (0, .ref (h 0)), (1, .int p0)] dX5_latest_24 (by decide) rfl ?_
    have L26 : ∀ (k : Nat) (M8 : St) (v5 : Int32) (v6 : Int32) (v7 : Int32), (Zmod M8) → 1 ≤ (v7 : Int32).toInt → mu v7 5 < k → G p l e { frames := 3, cells := 0, slots := 0, locals := 71 } s m args below meth c 0 0 D A (Qei below D cA A args s 0 0 (modW cA h) (Zmod) X) 9 X (xX5_latest_l26 k M8 p0 v5 v6 v7) (modW cA h M8) 26 [(0, .ref (h 0)), (1, .int p0), (3, .int v5), (4, .int v6), (5, .int v7)] [] := by
      intro k
      induction k with
      | zero => intro M8 v5 v6 v7 hz8 hi hmu; exact absurd hmu (Nat.not_lt_zero _)
      | succ k ih =>
        intro M8 v5 v6 v7 hz8 hi hmu
        rw [xX5_latest_l26]
        refine g_iload C (pc := 26) dX5_latest_26 4 rfl ?_
        refine g_iconst C (pc := 28) dX5_latest_28 cI_5 ?_
        refine g_icmp_ge C (pc := 29) 125 dX5_latest_29 (by decide) (fun c9 => ?_) (fun c9 => ?_)
        · refine g_iload_n C (pc := 125) dX5_latest_125 2 rfl ?_
          exact r_ei C rfl dX5_latest_126 hz8
        · refine g_aload_n C (pc := 32) dX5_latest_32 0 rfl ?_
          refine g_Vev C (pc := 33) (As := []) (kX5_fresh l D cA T h M8 hz8) (v_id (modW cA h) M8 10 (fun _ => rfl) rfl) gX5_latest_X5_fresh rfl ⟨rfl, rfl⟩ ⟨Nat.le_of_ble_eq_true rfl, Nat.le_of_ble_eq_true rfl⟩ ⟨Nat.zero_le _, Nat.zero_le _⟩ rfl (Nat.le_of_ble_eq_true rfl) hdV_X5_fresh 0 rfl rfl rfl dX5_latest_33 (fun M10 eM10 hz_M10 => ?_)
          have hz10 := hz_M10
          have hm := rz_fresh hz8 eM10
          refine g_aload_n C (pc := 36) dX5_latest_36 0 rfl ?_
          refine g_get C (pc := 37) inX5_latest_5 rfl 3 (by decide) (List.mem_of_getElem? (i := 1) rfl) dX5_latest_37 0 rfl (.ref (h 4)) rfl ?_
          refine g_bipush C (pc := 40) dX5_latest_40 cB_6 ?_
          refine g_iload C (pc := 42) dX5_latest_42 4 rfl ?_
          refine g_iast C (pc := 44) dX5_latest_44 4 rfl inb_6_151 (6) tn_6 (modW cA h) (sa M10 4 (up (M10 4) 6 v7)) rfl (fun M11 eM11 => ?_)
          have hz11 : (Zmod M11) := by rw [eM11]; exact hz10
          refine g_bipush C (pc := 45) dX5_latest_45 cB_m9 ?_
          refine g_nmi (fun x12 ex12 => ?_)
          refine g_istore C (pc := 47) [(6, .int x12), (0, .ref (h 0)), (1, .int p0), (3, .int v5), (4, .int v6), (5, .int v7)] dX5_latest_47 (by decide) rfl ?_
          refine g_iconst C (pc := 49) dX5_latest_49 cI_0 ?_
          refine g_istore C (pc := 50) [(7, .int 0), (6, .int x12), (0, .ref (h 0)), (1, .int p0), (3, .int v5), (4, .int v6), (5, .int v7)] dX5_latest_50 (by decide) rfl ?_
          refine g_inner (σ := St × Int32) (fun w13 : St × Int32 => (modW cA h w13.1)) (fun w13 => [(0, .ref (h 0)), (1, .int p0), (3, .int v5), (4, .int v6), (5, .int v7), (6, .int (w13.2))]) 102 (fun w13 : St × Int32 => (Zmod w13.1)) (fun w13 ew13 hw13 => ?_) (fun X13 Jw13 => ?_)
          · refine g_nmW (modW cA h) (fun M14 eM14 => ?_)
            have hz14 : (Zmod M14) := by rw [eM14]; exact hw13
            refine g_iload C (pc := 102) dX5_latest_102 5 rfl ?_
            refine g_iload C (pc := 104) dX5_latest_104 3 rfl ?_
            refine g_icmp_gt C (pc := 106) 112 dX5_latest_106 (by decide) (fun c15 => ?_) (fun c15 => ?_)
            · refine g_iload C (pc := 112) dX5_latest_112 4 rfl ?_
              refine g_istore_n C (pc := 114) [(3, .int v7), (0, .ref (h 0)), (1, .int p0), (4, .int v6), (5, .int v7), (6, .int (w13.2))] dX5_latest_114 (by decide) rfl ?_
              refine g_iload C (pc := 115) dX5_latest_115 5 rfl ?_
              refine g_nmi (fun x16 ex16 => ?_)
              refine g_istore C (pc := 117) [(4, .int x16), (3, .int v7), (0, .ref (h 0)), (1, .int p0), (5, .int v7), (6, .int (w13.2))] dX5_latest_117 (by decide) rfl ?_
              refine g_iincN C (pc := 119) 1 (fun y => [(5, .int y), (4, .int x16), (3, .int v7), (0, .ref (h 0)), (1, .int p0), (6, .int (w13.2))]) dX5_latest_119 4 rfl cI_1 (by decide) (fun _ => rfl) (fun x17 ex17 => ?_)
              refine g_goto C (pc := 122) 26 dX5_latest_122 (by decide) ?_
              refine g_sub [3, 4, 2, 1, 0] rfl ?_
              exact ih M14 v7 x16 x17 hz14 (by rw [ex17]; exact ge_step hi c9) (by rw [ex17]; exact lp_dec c9 hmu)
            · refine g_goto C (pc := 109) 119 dX5_latest_109 (by decide) ?_
              refine g_iincN C (pc := 119) 1 (fun y => [(5, .int y), (0, .ref (h 0)), (1, .int p0), (3, .int v5), (4, .int v6), (6, .int (w13.2))]) dX5_latest_119 4 rfl cI_1 (by decide) (fun _ => rfl) (fun x18 ex18 => ?_)
              refine g_goto C (pc := 122) 26 dX5_latest_122 (by decide) ?_
              refine g_sub [1, 2, 3, 4, 0] rfl ?_
              exact ih M14 v5 v6 x18 hz14 (by rw [ex18]; exact ge_step hi c9) (by rw [ex18]; exact lp_dec c9 hmu)
          · have L52 : ∀ (k : Nat) (M21 : St) (v19 : Int32) (v20 : Int32), (Zmod M21) → rz (M21 4) → mu v20 p0 < k → G p l e { frames := 3, cells := 0, slots := 0, locals := 71 } s m args below meth c 0 0 D A (Qei below D cA A args s 0 0 (modW cA h) (Zmod) X) 9 X13 (xX5_latest_l52 k M21 p0 v5 v6 v7 v19 v20) (modW cA h M21) 52 [(0, .ref (h 0)), (1, .int p0), (3, .int v5), (4, .int v6), (5, .int v7), (6, .int v19), (7, .int v20)] [] := by
              intro k
              induction k with
              | zero => intro M21 v19 v20 hz21 h4 hmu; exact absurd hmu (Nat.not_lt_zero _)
              | succ k ih =>
                intro M21 v19 v20 hz21 h4 hmu
                rw [xX5_latest_l52]
                refine g_iload C (pc := 52) dX5_latest_52 6 rfl ?_
                refine g_iload_n C (pc := 54) dX5_latest_54 1 rfl ?_
                refine g_icmp_ge C (pc := 55) 102 dX5_latest_55 (by decide) (fun c22 => ?_) (fun c22 => ?_)
                · refine g_sub [0, 1, 2, 3, 4, 5] rfl ?_
                  exact Jw13 (M21, v19) hz21
                · refine g_aload_n C (pc := 58) dX5_latest_58 0 rfl ?_
                  refine g_get C (pc := 59) inX5_latest_5 rfl 3 (by decide) (List.mem_of_getElem? (i := 1) rfl) dX5_latest_59 0 rfl (.ref (h 4)) rfl ?_
                  refine g_bipush C (pc := 62) dX5_latest_62 cB_23 ?_
                  refine g_iald C (pc := 64) dX5_latest_64 4 rfl inb_23_151 (M21 4 23) (congrArg (M21 4) tn_23) ?_
                  refine g_nmi (fun x23 ex23 => ?_)
                  refine g_istore C (pc := 65) [(8, .int x23), (0, .ref (h 0)), (1, .int p0), (3, .int v5), (4, .int v6), (5, .int v7), (6, .int v19), (7, .int v20)] dX5_latest_65 (by decide) rfl ?_
                  refine g_aload_n C (pc := 67) dX5_latest_67 1 rfl ?_
                  refine g_aload_n C (pc := 68) dX5_latest_68 1 rfl ?_
                  refine g_get C (pc := 69) inX5_latest_5 rfl 3 (by decide) (List.mem_of_getElem? (i := 1) rfl) dX5_latest_69 0 rfl (.ref (h 4)) rfl ?_
                  refine g_Vev C (pc := 72) (As := [.ref (h 4)]) (kX5_tenth l D cA T h (M21 0) (sh2 0 1 4 h) (sh 4 M21) h4) (v_mod_modk_0_4 cA h M21) gX5_latest_X5_tenth rfl ⟨rfl, rfl⟩ ⟨Nat.le_of_ble_eq_true rfl, Nat.le_of_ble_eq_true rfl⟩ ⟨Nat.zero_le _, Nat.zero_le _⟩ rfl (Nat.le_of_ble_eq_true rfl) hdV_X5_tenth 0 rfl rfl rfl dX5_latest_72 (fun z24 ez24 hz_z24 => ?_)
                  refine g_nmW (modW cA h) (fun M25 eM25 => ?_)
                  have hz25 : (Zmod M25) := by rw [eM25]; exact hz21
                  refine g_aload_n C (pc := 75) dX5_latest_75 1 rfl ?_
                  refine g_get C (pc := 76) inX5_latest_5 rfl 3 (by decide) (List.mem_of_getElem? (i := 1) rfl) dX5_latest_76 0 rfl (.ref (h 4)) rfl ?_
                  refine g_bipush C (pc := 79) dX5_latest_79 cB_23 ?_
                  refine g_iald C (pc := 81) dX5_latest_81 4 rfl inb_23_151 (M25 4 23) (congrArg (M25 4) tn_23) ?_
                  refine g_iload C (pc := 82) dX5_latest_82 0 rfl ?_
                  refine g_icmp_le C (pc := 84) 92 dX5_latest_84 (by decide) (fun c26 => ?_) (fun c26 => ?_)
                  · refine g_iload C (pc := 92) dX5_latest_92 6 rfl ?_
                    refine g_istore C (pc := 94) [(6, .int v19), (8, .int x23), (0, .ref (h 0)), (1, .int p0), (3, .int v5), (4, .int v6), (5, .int v7), (7, .int v20)] dX5_latest_94 (by decide) rfl ?_
                    refine g_iincN C (pc := 96) 1 (fun y => [(7, .int y), (6, .int v19), (8, .int x23), (0, .ref (h 0)), (1, .int p0), (3, .int v5), (4, .int v6), (5, .int v7)]) dX5_latest_96 7 rfl cI_1 (by decide) (fun _ => rfl) (fun x27 ex27 => ?_)
                    refine g_goto C (pc := 99) 52 dX5_latest_99 (by decide) ?_
                    refine g_sub [3, 4, 5, 6, 7, 1, 0] rfl ?_
                    exact ih M25 v19 x27 hz25 (by rw [eM25]; exact hz_z24) (by rw [ex27]; exact lp_dec c22 hmu)
                  · refine g_iload C (pc := 87) dX5_latest_87 7 rfl ?_
                    refine g_goto C (pc := 89) 94 dX5_latest_89 (by decide) ?_
                    refine g_istore C (pc := 94) [(6, .int v20), (8, .int x23), (0, .ref (h 0)), (1, .int p0), (3, .int v5), (4, .int v6), (5, .int v7), (7, .int v20)] dX5_latest_94 (by decide) rfl ?_
                    refine g_iincN C (pc := 96) 1 (fun y => [(7, .int y), (6, .int v20), (8, .int x23), (0, .ref (h 0)), (1, .int p0), (3, .int v5), (4, .int v6), (5, .int v7)]) dX5_latest_96 7 rfl cI_1 (by decide) (fun _ => rfl) (fun x28 ex28 => ?_)
                    refine g_goto C (pc := 99) 52 dX5_latest_99 (by decide) ?_
                    refine g_sub [3, 4, 5, 6, 7, 1, 0] rfl ?_
                    exact ih M25 v20 x28 hz25 (by rw [eM25]; exact hz_z24) (by rw [ex28]; exact lp_dec c22 hmu)
            refine g_sub [2, 3, 4, 5, 6, 1, 0] rfl ?_
            exact L52 _ M11 x12 0 hz11 (by rw [eM11]; exact rz_up hm (by decide) (by decide) (fun _ => la_hq (c := 0) hi c9)) (Nat.lt_succ_self _)
    refine g_sub [4, 5, 2, 1, 0] rfl ?_
    exact L26 _ M x3 x4 1 hz (by decide) (Nat.lt_succ_self _)
  · refine g_aload_n C (pc := 10) dX5_latest_10 1 rfl ?_
    refine g_iload_n C (pc := 11) dX5_latest_11 0 rfl ?_
    refine g_Vei C (pc := 12) (As := [.int x1]) (kX5_refuse l D cA T h M x1 hz (rf_vp (rf_of (by rw [ex1]; (repeat' split) <;> first | exact rf0_c (by decide) | exact rf0_within _ _ _ | exact rf0_wrongRun _ _ | exact rf0_wrongSorts _ _) c2))) (v_id (modW cA h) M 10 (fun _ => rfl) rfl) gX5_latest_X5_refuse rfl ⟨rfl, rfl⟩ ⟨Nat.le_of_ble_eq_true rfl, Nat.le_of_ble_eq_true rfl⟩ ⟨Nat.zero_le _, Nat.zero_le _⟩ rfl (Nat.le_of_ble_eq_true rfl) hdV_X5_refuse 0 rfl rfl rfl dX5_latest_12 (fun z29 ez29 hz_z29 => ?_)
    refine g_nmW (modW cA h) (fun M30 eM30 => ?_)
    have hz30 : (Zmod M30) := by rw [eM30]; exact hz_z29
    exact r_ei C rfl dX5_latest_15 hz30
theorem inX5_dot_5 : ∀ w ∈ u_ws RX5 TX5 14, w ∈ wsX5_dot := by decide +kernel
noncomputable def xX5_dot (M : St) (p0 : Int32) : Int32 × St := if 0 ≤ p0 then (if (M 2 89) ≤ p0 then (((-9), M)) else (((M 2 ((29 + p0) : Int32).toNatClampNeg), M))) else (nm (xX5_refuse M (-4)) fun z3 => nm (z3.2) fun M4 => (z3.1, M4))
set_option maxHeartbeats 4000000 in
set_option maxRecDepth 100000 in
theorem kX5_dot (l : Launch) (D : va_G) (cA : ClassId) (T : Nat × Nat × Nat) (h : Nat → Nat) (M : St) (p0 : Int32) (hz : (Zmod M)) : ∀ sz : Nat, Met l yX5_dot wsX5_dot { frames := 1, cells := 0, slots := 0, locals := 21 } (va_Pc [.ref (h 0), .int p0] (PreW D cA T (modW cA h M) sz)) (va_Qi (fun r u => (r, u) = (xX5_dot M p0) ∧ (Zmod) u) (fun u => PostW D cA (va_A (modW cA h M) sz) (modW cA h u)) (va_A (modW cA h M) sz)) 0 0 (va_A (modW cA h M) sz) := by
  refine m_ei (Wf := modW cA h) (inv := (Zmod)) (cc := cX5_dot) (maxL := 2) (own := RX5) (by decide) rfl rfl (Nat.le_of_ble_eq_true rfl) (fun {p e s m args below meth c} A C X => ?_)
  show G p l e { frames := 1, cells := 0, slots := 0, locals := 21 } s m args below meth c 0 0 D A (Qei below D cA A args s 0 0 (modW cA h) (Zmod) X) 2 X (xX5_dot M p0) (modW cA h M) 0 [(0, .ref (h 0)), (1, .int p0)] []
  unfold xX5_dot
  refine g_iload_n C (pc := 0) dX5_dot_0 1 rfl ?_
  refine g_if_ge C (pc := 1) 13 dX5_dot_1 (by decide) (fun c1 => ?_) (fun c1 => ?_)
  · refine g_iload_n C (pc := 13) dX5_dot_13 1 rfl ?_
    refine g_aload_n C (pc := 14) dX5_dot_14 0 rfl ?_
    refine g_get C (pc := 15) inX5_dot_5 rfl 1 (by decide) (List.mem_of_getElem? (i := 1) rfl) dX5_dot_15 0 rfl (.ref (h 2)) rfl ?_
    refine g_bipush C (pc := 18) dX5_dot_18 cB_89 ?_
    refine g_iald C (pc := 20) dX5_dot_20 2 rfl inb_89_151 (M 2 89) (congrArg (M 2) tn_89) ?_
    refine g_icmp_ge C (pc := 21) 36 dX5_dot_21 (by decide) (fun c2 => ?_) (fun c2 => ?_)
    · refine g_bipush C (pc := 36) dX5_dot_36 cB_m9 ?_
      exact r_ei C rfl dX5_dot_38 hz
    · refine g_aload_n C (pc := 24) dX5_dot_24 0 rfl ?_
      refine g_get C (pc := 25) inX5_dot_5 rfl 1 (by decide) (List.mem_of_getElem? (i := 1) rfl) dX5_dot_25 0 rfl (.ref (h 2)) rfl ?_
      refine g_bipush C (pc := 28) dX5_dot_28 cB_29 ?_
      refine g_iload_n C (pc := 30) dX5_dot_30 1 rfl ?_
      refine g_iadd C (pc := 31) dX5_dot_31 ?_
      refine g_iald C (pc := 32) dX5_dot_32 2 rfl (dot_in hz (i0 c1) c2) (M 2 ((29 + p0) : Int32).toNatClampNeg) rfl ?_
      refine g_goto C (pc := 33) 38 dX5_dot_33 (by decide) ?_
      exact r_ei C rfl dX5_dot_38 hz
  · refine g_aload_n C (pc := 4) dX5_dot_4 0 rfl ?_
    refine g_bipush C (pc := 5) dX5_dot_5 cB_m4 ?_
    refine g_Vei C (pc := 7) (As := [.int (-4)]) (kX5_refuse l D cA T h M (-4) hz rf_m4) (v_id (modW cA h) M 10 (fun _ => rfl) rfl) gX5_dot_X5_refuse rfl ⟨rfl, rfl⟩ ⟨Nat.le_of_ble_eq_true rfl, Nat.le_of_ble_eq_true rfl⟩ ⟨Nat.zero_le _, Nat.zero_le _⟩ rfl (Nat.le_of_ble_eq_true rfl) hdV_X5_refuse 0 rfl rfl rfl dX5_dot_7 (fun z3 ez3 hz_z3 => ?_)
    refine g_nmW (modW cA h) (fun M4 eM4 => ?_)
    have hz4 : (Zmod M4) := by rw [eM4]; exact hz_z3
    refine g_goto C (pc := 10) 38 dX5_dot_10 (by decide) ?_
    exact r_ei C rfl dX5_dot_38 hz4
theorem inX5_even_5 : ∀ w ∈ u_ws RX5 TX5 14, w ∈ wsX5_even := by decide +kernel
noncomputable def xX5_even_l13 : Nat → St → Int32 → Int32 → Int32 × St
  | 0, M, _, _ => (0, M)
  | k + 1, M, p0, v2 => if (xX5_gaps M) ≤ v2 then (((-9), M)) else (if (xX5_amount ((xX5_gapOf (sh 2 M) v2) - (xX5_gapOf (sh 2 M) (v2 - 1)))) ≤ p0 then (nm (v2 + 1 : Int32) fun x5 => xX5_even_l13 k M p0 x5) else ((v2, M)))
noncomputable def xX5_even (M : St) (p0 : Int32) : Int32 × St := if 0 ≤ p0 then (xX5_even_l13 (mu 1 (xX5_gaps M) + 1) M p0 1) else (nm (xX5_refuse M (-4)) fun z6 => nm (z6.2) fun M7 => (z6.1, M7))
set_option maxHeartbeats 4000000 in
set_option maxRecDepth 100000 in
theorem kX5_even (l : Launch) (D : va_G) (cA : ClassId) (T : Nat × Nat × Nat) (h : Nat → Nat) (M : St) (p0 : Int32) (hz : (Zmod M)) : ∀ sz : Nat, Met l yX5_even wsX5_even { frames := 1, cells := 0, slots := 0, locals := 21 } (va_Pc [.ref (h 0), .int p0] (PreW D cA T (modW cA h M) sz)) (va_Qi (fun r u => (r, u) = (xX5_even M p0) ∧ (Zmod) u) (fun u => PostW D cA (va_A (modW cA h M) sz) (modW cA h u)) (va_A (modW cA h M) sz)) 0 0 (va_A (modW cA h M) sz) := by
  refine m_ei (Wf := modW cA h) (inv := (Zmod)) (cc := cX5_even) (maxL := 3) (own := RX5) (by decide) rfl rfl (Nat.le_of_ble_eq_true rfl) (fun {p e s m args below meth c} A C X => ?_)
  show G p l e { frames := 1, cells := 0, slots := 0, locals := 21 } s m args below meth c 0 0 D A (Qei below D cA A args s 0 0 (modW cA h) (Zmod) X) 3 X (xX5_even M p0) (modW cA h M) 0 [(0, .ref (h 0)), (1, .int p0)] []
  unfold xX5_even
  refine g_iload_n C (pc := 0) dX5_even_0 1 rfl ?_
  refine g_if_ge C (pc := 1) 11 dX5_even_1 (by decide) (fun c1 => ?_) (fun c1 => ?_)
  · refine g_iconst C (pc := 11) dX5_even_11 cI_1 ?_
    refine g_istore_n C (pc := 12) [(2, .int 1), (0, .ref (h 0)), (1, .int p0)] dX5_even_12 (by decide) rfl ?_
    have L13 : ∀ (k : Nat) (v2 : Int32), 1 ≤ (v2 : Int32).toInt → mu v2 (xX5_gaps M) < k → G p l e { frames := 1, cells := 0, slots := 0, locals := 21 } s m args below meth c 0 0 D A (Qei below D cA A args s 0 0 (modW cA h) (Zmod) X) 3 X (xX5_even_l13 k M p0 v2) (modW cA h M) 13 [(0, .ref (h 0)), (1, .int p0), (2, .int v2)] [] := by
      intro k
      induction k with
      | zero => intro v2 hi hmu; exact absurd hmu (Nat.not_lt_zero _)
      | succ k ih =>
        intro v2 hi hmu
        rw [xX5_even_l13]
        refine g_iload_n C (pc := 13) dX5_even_13 2 rfl ?_
        refine g_aload_n C (pc := 14) dX5_even_14 0 rfl ?_
        refine g_Vpi C (pc := 15) (As := []) (kX5_gaps l D cA T h M hz) (v_id (modW cA h) M 10 (fun _ => rfl) rfl) gX5_even_X5_gaps rfl ⟨rfl, rfl⟩ ⟨Nat.le_of_ble_eq_true rfl, Nat.le_of_ble_eq_true rfl⟩ ⟨Nat.zero_le _, Nat.zero_le _⟩ rfl (Nat.le_of_ble_eq_true rfl) hdV_X5_gaps 0 rfl rfl rfl dX5_even_15 ?_
        refine g_icmp_ge C (pc := 18) 55 dX5_even_18 (by decide) (fun c3 => ?_) (fun c3 => ?_)
        · refine g_bipush C (pc := 55) dX5_even_55 cB_m9 ?_
          exact r_ei C rfl dX5_even_57 hz
        · refine g_aload_n C (pc := 21) dX5_even_21 0 rfl ?_
          refine g_get C (pc := 22) inX5_even_5 rfl 1 (by decide) (List.mem_of_getElem? (i := 1) rfl) dX5_even_22 0 rfl (.ref (h 2)) rfl ?_
          refine g_iload_n C (pc := 25) dX5_even_25 2 rfl ?_
          refine g_Spi C (pc := 26) (As := [.ref (h 2), .int v2]) (kX5_gapOf l D cA T (sh 2 h) (sh 2 M) v2 trivial (gp_hp hz (le01 hi) c3)) (v_mod_arr0_2 cA h M) gX5_even_X5_gapOf rfl ⟨rfl, rfl⟩ ⟨Nat.le_of_ble_eq_true rfl, Nat.le_of_ble_eq_true rfl⟩ ⟨Nat.zero_le _, Nat.zero_le _⟩ rfl (Nat.le_of_ble_eq_true rfl) hdS_X5_gapOf rfl dX5_even_26 ?_
          refine g_aload_n C (pc := 29) dX5_even_29 0 rfl ?_
          refine g_get C (pc := 30) inX5_even_5 rfl 1 (by decide) (List.mem_of_getElem? (i := 1) rfl) dX5_even_30 0 rfl (.ref (h 2)) rfl ?_
          refine g_iload_n C (pc := 33) dX5_even_33 2 rfl ?_
          refine g_iconst C (pc := 34) dX5_even_34 cI_1 ?_
          refine g_isub C (pc := 35) dX5_even_35 ?_
          refine g_Spi C (pc := 36) (As := [.ref (h 2), .int (v2 - 1)]) (kX5_gapOf l D cA T (sh 2 h) (sh 2 M) (v2 - 1) trivial (gp_hp1 hz hi c3)) (v_mod_arr0_2 cA h M) gX5_even_X5_gapOf rfl ⟨rfl, rfl⟩ ⟨Nat.le_of_ble_eq_true rfl, Nat.le_of_ble_eq_true rfl⟩ ⟨Nat.zero_le _, Nat.zero_le _⟩ rfl (Nat.le_of_ble_eq_true rfl) hdS_X5_gapOf rfl dX5_even_36 ?_
          refine g_isub C (pc := 39) dX5_even_39 ?_
          refine g_Spi C (pc := 40) (As := [.int ((xX5_gapOf (sh 2 M) v2) - (xX5_gapOf (sh 2 M) (v2 - 1)))]) (kX5_amount l D cA T ((xX5_gapOf (sh 2 M) v2) - (xX5_gapOf (sh 2 M) (v2 - 1)))) (v_none (modW cA h M) 10 rfl rfl) gX5_even_X5_amount rfl ⟨rfl, rfl⟩ ⟨Nat.le_of_ble_eq_true rfl, Nat.le_of_ble_eq_true rfl⟩ ⟨Nat.zero_le _, Nat.zero_le _⟩ rfl (Nat.le_of_ble_eq_true rfl) hdS_X5_amount rfl dX5_even_40 ?_
          refine g_iload_n C (pc := 43) dX5_even_43 1 rfl ?_
          refine g_icmp_le C (pc := 44) 49 dX5_even_44 (by decide) (fun c4 => ?_) (fun c4 => ?_)
          · refine g_iincN C (pc := 49) 1 (fun y => [(2, .int y), (0, .ref (h 0)), (1, .int p0)]) dX5_even_49 2 rfl cI_1 (by decide) (fun _ => rfl) (fun x5 ex5 => ?_)
            refine g_goto C (pc := 52) 13 dX5_even_52 (by decide) ?_
            refine g_sub [1, 2, 0] rfl ?_
            exact ih x5 (by rw [ex5]; exact ge_step hi c3) (by rw [ex5]; exact lp_dec c3 hmu)
          · refine g_iload_n C (pc := 47) dX5_even_47 2 rfl ?_
            exact r_ei C rfl dX5_even_48 hz
    refine g_sub [1, 2, 0] rfl ?_
    exact L13 _ 1 (by decide) (Nat.lt_succ_self _)
  · refine g_aload_n C (pc := 4) dX5_even_4 0 rfl ?_
    refine g_bipush C (pc := 5) dX5_even_5 cB_m4 ?_
    refine g_Vei C (pc := 7) (As := [.int (-4)]) (kX5_refuse l D cA T h M (-4) hz rf_m4) (v_id (modW cA h) M 10 (fun _ => rfl) rfl) gX5_even_X5_refuse rfl ⟨rfl, rfl⟩ ⟨Nat.le_of_ble_eq_true rfl, Nat.le_of_ble_eq_true rfl⟩ ⟨Nat.zero_le _, Nat.zero_le _⟩ rfl (Nat.le_of_ble_eq_true rfl) hdV_X5_refuse 0 rfl rfl rfl dX5_even_7 (fun z6 ez6 hz_z6 => ?_)
    refine g_nmW (modW cA h) (fun M7 eM7 => ?_)
    have hz7 : (Zmod M7) := by rw [eM7]; exact hz_z6
    exact r_ei C rfl dX5_even_10 hz7
theorem inX5_longer_5 : ∀ w ∈ u_ws RX5 TX5 14, w ∈ wsX5_longer := by decide +kernel
noncomputable def xX5_longer_l19 : Nat → St → Int32 → Int32 → Int32 → Int32 × St
  | 0, M, _, _, _ => (0, M)
  | k + 1, M, p0, v2, v3 => if (xX5_gaps M) ≤ v3 then ((v2, M)) else (nm (((xX5_gapOf (sh 2 M) v3) - (xX5_gapOf (sh 2 M) (v3 - 1))) : Int32) fun x5 => nm (if p0 = 0 then (if 0 < x5 then (1) else (if p0 = 1 then (if 0 ≤ x5 then (0) else (1)) else (0))) else (if p0 = 1 then (if 0 ≤ x5 then (0) else (1)) else (0)) : Int32) fun v12 => nm ((v2 + v12) : Int32) fun x13 => nm (v3 + 1 : Int32) fun x14 => xX5_longer_l19 k M p0 x13 x14)
noncomputable def xX5_longer (M : St) (p0 : Int32) : Int32 × St := if (xX5_isIn p0 2) = 0 then (nm (xX5_refuse M (-2)) fun z15 => nm (z15.2) fun M16 => (z15.1, M16)) else (xX5_longer_l19 (mu 1 (xX5_gaps M) + 1) M p0 0 1)
set_option maxHeartbeats 4000000 in
set_option maxRecDepth 100000 in
theorem kX5_longer (l : Launch) (D : va_G) (cA : ClassId) (T : Nat × Nat × Nat) (h : Nat → Nat) (M : St) (p0 : Int32) (hz : (Zmod M)) : ∀ sz : Nat, Met l yX5_longer wsX5_longer { frames := 1, cells := 0, slots := 0, locals := 21 } (va_Pc [.ref (h 0), .int p0] (PreW D cA T (modW cA h M) sz)) (va_Qi (fun r u => (r, u) = (xX5_longer M p0) ∧ (Zmod) u) (fun u => PostW D cA (va_A (modW cA h M) sz) (modW cA h u)) (va_A (modW cA h M) sz)) 0 0 (va_A (modW cA h M) sz) := by
  refine m_ei (Wf := modW cA h) (inv := (Zmod)) (cc := cX5_longer) (maxL := 5) (own := RX5) (by decide) rfl rfl (Nat.le_of_ble_eq_true rfl) (fun {p e s m args below meth c} A C X => ?_)
  show G p l e { frames := 1, cells := 0, slots := 0, locals := 21 } s m args below meth c 0 0 D A (Qei below D cA A args s 0 0 (modW cA h) (Zmod) X) 5 X (xX5_longer M p0) (modW cA h M) 0 [(0, .ref (h 0)), (1, .int p0)] []
  unfold xX5_longer
  refine g_iload_n C (pc := 0) dX5_longer_0 1 rfl ?_
  refine g_iconst C (pc := 1) dX5_longer_1 cI_2 ?_
  refine g_Spi C (pc := 2) (As := [.int p0, .int 2]) (kX5_isIn l D cA T p0 2) (v_none (modW cA h M) 10 rfl rfl) gX5_longer_X5_isIn rfl ⟨rfl, rfl⟩ ⟨Nat.le_of_ble_eq_true rfl, Nat.le_of_ble_eq_true rfl⟩ ⟨Nat.zero_le _, Nat.zero_le _⟩ rfl (Nat.le_of_ble_eq_true rfl) hdS_X5_isIn rfl dX5_longer_2 ?_
  refine g_if_ne C (pc := 5) 15 dX5_longer_5 (by decide) (fun c1 => ?_) (fun c1 => ?_)
  · refine g_iconst C (pc := 15) dX5_longer_15 cI_0 ?_
    refine g_istore_n C (pc := 16) [(2, .int 0), (0, .ref (h 0)), (1, .int p0)] dX5_longer_16 (by decide) rfl ?_
    refine g_iconst C (pc := 17) dX5_longer_17 cI_1 ?_
    refine g_istore_n C (pc := 18) [(3, .int 1), (2, .int 0), (0, .ref (h 0)), (1, .int p0)] dX5_longer_18 (by decide) rfl ?_
    have L19 : ∀ (k : Nat) (v2 : Int32) (v3 : Int32), 1 ≤ (v3 : Int32).toInt → mu v3 (xX5_gaps M) < k → G p l e { frames := 1, cells := 0, slots := 0, locals := 21 } s m args below meth c 0 0 D A (Qei below D cA A args s 0 0 (modW cA h) (Zmod) X) 5 X (xX5_longer_l19 k M p0 v2 v3) (modW cA h M) 19 [(0, .ref (h 0)), (1, .int p0), (2, .int v2), (3, .int v3)] [] := by
      intro k
      induction k with
      | zero => intro v2 v3 hi hmu; exact absurd hmu (Nat.not_lt_zero _)
      | succ k ih =>
        intro v2 v3 hi hmu
        rw [xX5_longer_l19]
        refine g_iload_n C (pc := 19) dX5_longer_19 3 rfl ?_
        refine g_aload_n C (pc := 20) dX5_longer_20 0 rfl ?_
        refine g_Vpi C (pc := 21) (As := []) (kX5_gaps l D cA T h M hz) (v_id (modW cA h) M 10 (fun _ => rfl) rfl) gX5_longer_X5_gaps rfl ⟨rfl, rfl⟩ ⟨Nat.le_of_ble_eq_true rfl, Nat.le_of_ble_eq_true rfl⟩ ⟨Nat.zero_le _, Nat.zero_le _⟩ rfl (Nat.le_of_ble_eq_true rfl) hdV_X5_gaps 0 rfl rfl rfl dX5_longer_21 ?_
        refine g_icmp_ge C (pc := 24) 81 dX5_longer_24 (by decide) (fun c4 => ?_) (fun c4 => ?_)
        · refine g_iload_n C (pc := 81) dX5_longer_81 2 rfl ?_
          exact r_ei C rfl dX5_longer_82 hz
        · refine g_aload_n C (pc := 27) dX5_longer_27 0 rfl ?_
          refine g_get C (pc := 28) inX5_longer_5 rfl 1 (by decide) (List.mem_of_getElem? (i := 1) rfl) dX5_longer_28 0 rfl (.ref (h 2)) rfl ?_
          refine g_iload_n C (pc := 31) dX5_longer_31 3 rfl ?_
          refine g_Spi C (pc := 32) (As := [.ref (h 2), .int v3]) (kX5_gapOf l D cA T (sh 2 h) (sh 2 M) v3 trivial (gp_hp hz (le01 hi) c4)) (v_mod_arr0_2 cA h M) gX5_longer_X5_gapOf rfl ⟨rfl, rfl⟩ ⟨Nat.le_of_ble_eq_true rfl, Nat.le_of_ble_eq_true rfl⟩ ⟨Nat.zero_le _, Nat.zero_le _⟩ rfl (Nat.le_of_ble_eq_true rfl) hdS_X5_gapOf rfl dX5_longer_32 ?_
          refine g_aload_n C (pc := 35) dX5_longer_35 0 rfl ?_
          refine g_get C (pc := 36) inX5_longer_5 rfl 1 (by decide) (List.mem_of_getElem? (i := 1) rfl) dX5_longer_36 0 rfl (.ref (h 2)) rfl ?_
          refine g_iload_n C (pc := 39) dX5_longer_39 3 rfl ?_
          refine g_iconst C (pc := 40) dX5_longer_40 cI_1 ?_
          refine g_isub C (pc := 41) dX5_longer_41 ?_
          refine g_Spi C (pc := 42) (As := [.ref (h 2), .int (v3 - 1)]) (kX5_gapOf l D cA T (sh 2 h) (sh 2 M) (v3 - 1) trivial (gp_hp1 hz hi c4)) (v_mod_arr0_2 cA h M) gX5_longer_X5_gapOf rfl ⟨rfl, rfl⟩ ⟨Nat.le_of_ble_eq_true rfl, Nat.le_of_ble_eq_true rfl⟩ ⟨Nat.zero_le _, Nat.zero_le _⟩ rfl (Nat.le_of_ble_eq_true rfl) hdS_X5_gapOf rfl dX5_longer_42 ?_
          refine g_isub C (pc := 45) dX5_longer_45 ?_
          refine g_nmi (fun x5 ex5 => ?_)
          refine g_istore C (pc := 46) [(4, .int x5), (0, .ref (h 0)), (1, .int p0), (2, .int v2), (3, .int v3)] dX5_longer_46 (by decide) rfl ?_
          refine g_iload_n C (pc := 48) dX5_longer_48 3 rfl ?_
          refine g_iload_n C (pc := 49) dX5_longer_49 2 rfl ?_
          refine g_join (α := Int32) (fun v12 => [(0, .ref (h 0)), (1, .int p0), (3, .int v3)]) (fun v12 => [.int v12, .int v2]) 73 (fun v12 ev12 => ?_) (fun Jv12 => ?_)
          · refine g_iadd C (pc := 73) dX5_longer_73 ?_
            refine g_nmi (fun x13 ex13 => ?_)
            refine g_istore_n C (pc := 74) [(2, .int x13), (0, .ref (h 0)), (1, .int p0), (3, .int v3)] dX5_longer_74 (by decide) rfl ?_
            refine g_iincN C (pc := 75) 1 (fun y => [(3, .int y), (2, .int x13), (0, .ref (h 0)), (1, .int p0)]) dX5_longer_75 3 rfl cI_1 (by decide) (fun _ => rfl) (fun x14 ex14 => ?_)
            refine g_goto C (pc := 78) 19 dX5_longer_78 (by decide) ?_
            refine g_sub [2, 3, 1, 0] rfl ?_
            exact ih x13 x14 (by rw [ex14]; exact ge_step hi c4) (by rw [ex14]; exact lp_dec c4 hmu)
          · refine g_if_ne0 C (pc := 50) 58 dX5_longer_50 (by decide) (fun c6 => ?_) (fun c6 => ?_)
            · refine g_iload_n C (pc := 58) dX5_longer_58 2 rfl ?_
              refine g_iconst C (pc := 59) dX5_longer_59 cI_1 ?_
              refine g_icmp_ne0 C (pc := 60) 72 dX5_longer_60 (by decide) (fun c7 => ?_) (fun c7 => ?_)
              · refine g_iconst C (pc := 72) dX5_longer_72 cI_0 ?_
                refine g_sub [1, 2, 4] rfl ?_
                exact g_lf ((if_neg c6).trans (if_neg c7)) (Jv12 _ (Eq.symm ((if_neg c6).trans (if_neg c7))))
              · refine g_iload C (pc := 63) dX5_longer_63 0 rfl ?_
                refine g_if_ge0 C (pc := 65) 72 dX5_longer_65 (by decide) (fun c8 => ?_) (fun c8 => ?_)
                · refine g_iconst C (pc := 72) dX5_longer_72 cI_0 ?_
                  refine g_sub [1, 2, 4] rfl ?_
                  exact g_lf (((if_neg c6).trans (if_pos c7)).trans (if_pos c8)) (Jv12 _ (Eq.symm (((if_neg c6).trans (if_pos c7)).trans (if_pos c8))))
                · refine g_iconst C (pc := 68) dX5_longer_68 cI_1 ?_
                  refine g_goto C (pc := 69) 73 dX5_longer_69 (by decide) ?_
                  refine g_sub [1, 2, 4] rfl ?_
                  exact g_lf (((if_neg c6).trans (if_pos c7)).trans (if_neg c8)) (Jv12 _ (Eq.symm (((if_neg c6).trans (if_pos c7)).trans (if_neg c8))))
            · refine g_iload C (pc := 53) dX5_longer_53 0 rfl ?_
              refine g_if_gt0 C (pc := 55) 68 dX5_longer_55 (by decide) (fun c9 => ?_) (fun c9 => ?_)
              · refine g_iconst C (pc := 68) dX5_longer_68 cI_1 ?_
                refine g_goto C (pc := 69) 73 dX5_longer_69 (by decide) ?_
                refine g_sub [1, 2, 4] rfl ?_
                exact g_lf ((if_pos c6).trans (if_pos c9)) (Jv12 _ (Eq.symm ((if_pos c6).trans (if_pos c9))))
              · refine g_iload_n C (pc := 58) dX5_longer_58 2 rfl ?_
                refine g_iconst C (pc := 59) dX5_longer_59 cI_1 ?_
                refine g_icmp_ne0 C (pc := 60) 72 dX5_longer_60 (by decide) (fun c10 => ?_) (fun c10 => ?_)
                · refine g_iconst C (pc := 72) dX5_longer_72 cI_0 ?_
                  refine g_sub [1, 2, 4] rfl ?_
                  exact g_lf (((if_pos c6).trans (if_neg c9)).trans (if_neg c10)) (Jv12 _ (Eq.symm (((if_pos c6).trans (if_neg c9)).trans (if_neg c10))))
                · refine g_iload C (pc := 63) dX5_longer_63 0 rfl ?_
                  refine g_if_ge0 C (pc := 65) 72 dX5_longer_65 (by decide) (fun c11 => ?_) (fun c11 => ?_)
                  · refine g_iconst C (pc := 72) dX5_longer_72 cI_0 ?_
                    refine g_sub [1, 2, 4] rfl ?_
                    exact g_lf ((((if_pos c6).trans (if_neg c9)).trans (if_pos c10)).trans (if_pos c11)) (Jv12 _ (Eq.symm ((((if_pos c6).trans (if_neg c9)).trans (if_pos c10)).trans (if_pos c11))))
                  · refine g_iconst C (pc := 68) dX5_longer_68 cI_1 ?_
                    refine g_goto C (pc := 69) 73 dX5_longer_69 (by decide) ?_
                    refine g_sub [1, 2, 4] rfl ?_
                    exact g_lf ((((if_pos c6).trans (if_neg c9)).trans (if_pos c10)).trans (if_neg c11)) (Jv12 _ (Eq.symm ((((if_pos c6).trans (if_neg c9)).trans (if_pos c10)).trans (if_neg c11))))
    refine g_sub [2, 3, 1, 0] rfl ?_
    exact L19 _ 0 1 (by decide) (Nat.lt_succ_self _)
  · refine g_aload_n C (pc := 8) dX5_longer_8 0 rfl ?_
    refine g_bipush C (pc := 9) dX5_longer_9 cB_m2 ?_
    refine g_Vei C (pc := 11) (As := [.int (-2)]) (kX5_refuse l D cA T h M (-2) hz rf_m2) (v_id (modW cA h) M 10 (fun _ => rfl) rfl) gX5_longer_X5_refuse rfl ⟨rfl, rfl⟩ ⟨Nat.le_of_ble_eq_true rfl, Nat.le_of_ble_eq_true rfl⟩ ⟨Nat.zero_le _, Nat.zero_le _⟩ rfl (Nat.le_of_ble_eq_true rfl) hdV_X5_refuse 0 rfl rfl rfl dX5_longer_11 (fun z15 ez15 hz_z15 => ?_)
    refine g_nmW (modW cA h) (fun M16 eM16 => ?_)
    have hz16 : (Zmod M16) := by rw [eM16]; exact hz_z15
    exact r_ei C rfl dX5_longer_14 hz16
theorem inX5_slow_5 : ∀ w ∈ u_ws RX5 TX5 14, w ∈ wsX5_slow := by decide +kernel
noncomputable def xX5_slow_l21 : Nat → St → Int32 → Int32 → Int32 × St
  | 0, M, _, _ => (0, M)
  | k + 1, M, p0, v3 => if (xX5_gaps M) ≤ v3 then (((-9), M)) else (if (xX5_gapOf (sh 2 M) v3) ≤ ((p0 * (xX5_gapOf (sh 2 M) 0)) / 10) then (nm (v3 + 1 : Int32) fun x6 => xX5_slow_l21 k M p0 x6) else ((v3, M)))
noncomputable def xX5_slow (M : St) (p0 : Int32) : Int32 × St := nm ((xX5_within p0 0 999) : Int32) fun x1 => if x1 = 0 then (xX5_slow_l21 (mu 1 (xX5_gaps M) + 1) M p0 1) else (nm (xX5_refuse M x1) fun z7 => nm (z7.2) fun M8 => (z7.1, M8))
set_option maxHeartbeats 4000000 in
set_option maxRecDepth 100000 in
theorem kX5_slow (l : Launch) (D : va_G) (cA : ClassId) (T : Nat × Nat × Nat) (h : Nat → Nat) (M : St) (p0 : Int32) (hz : (Zmod M)) : ∀ sz : Nat, Met l yX5_slow wsX5_slow { frames := 1, cells := 0, slots := 0, locals := 22 } (va_Pc [.ref (h 0), .int p0] (PreW D cA T (modW cA h M) sz)) (va_Qi (fun r u => (r, u) = (xX5_slow M p0) ∧ (Zmod) u) (fun u => PostW D cA (va_A (modW cA h M) sz) (modW cA h u)) (va_A (modW cA h M) sz)) 0 0 (va_A (modW cA h M) sz) := by
  refine m_ei (Wf := modW cA h) (inv := (Zmod)) (cc := cX5_slow) (maxL := 4) (own := RX5) (by decide) rfl rfl (Nat.le_of_ble_eq_true rfl) (fun {p e s m args below meth c} A C X => ?_)
  show G p l e { frames := 1, cells := 0, slots := 0, locals := 22 } s m args below meth c 0 0 D A (Qei below D cA A args s 0 0 (modW cA h) (Zmod) X) 4 X (xX5_slow M p0) (modW cA h M) 0 [(0, .ref (h 0)), (1, .int p0)] []
  unfold xX5_slow
  refine g_iload_n C (pc := 0) dX5_slow_0 1 rfl ?_
  refine g_iconst C (pc := 1) dX5_slow_1 cI_0 ?_
  refine g_sipush C (pc := 2) dX5_slow_2 cS_999 ?_
  refine g_Spi C (pc := 5) (As := [.int p0, .int 0, .int 999]) (kX5_within l D cA T p0 0 999) (v_none (modW cA h M) 10 rfl rfl) gX5_slow_X5_within rfl ⟨rfl, rfl⟩ ⟨Nat.le_of_ble_eq_true rfl, Nat.le_of_ble_eq_true rfl⟩ ⟨Nat.zero_le _, Nat.zero_le _⟩ rfl (Nat.le_of_ble_eq_true rfl) hdS_X5_within rfl dX5_slow_5 ?_
  refine g_nmi (fun x1 ex1 => ?_)
  refine g_istore_n C (pc := 8) [(2, .int x1), (0, .ref (h 0)), (1, .int p0)] dX5_slow_8 (by decide) rfl ?_
  refine g_iload_n C (pc := 9) dX5_slow_9 0 rfl ?_
  refine g_if_eq C (pc := 10) 19 dX5_slow_10 (by decide) (fun c2 => ?_) (fun c2 => ?_)
  · refine g_iconst C (pc := 19) dX5_slow_19 cI_1 ?_
    refine g_istore_n C (pc := 20) [(3, .int 1), (2, .int x1), (0, .ref (h 0)), (1, .int p0)] dX5_slow_20 (by decide) rfl ?_
    have L21 : ∀ (k : Nat) (v3 : Int32), 1 ≤ (v3 : Int32).toInt → mu v3 (xX5_gaps M) < k → G p l e { frames := 1, cells := 0, slots := 0, locals := 22 } s m args below meth c 0 0 D A (Qei below D cA A args s 0 0 (modW cA h) (Zmod) X) 4 X (xX5_slow_l21 k M p0 v3) (modW cA h M) 21 [(0, .ref (h 0)), (1, .int p0), (3, .int v3)] [] := by
      intro k
      induction k with
      | zero => intro v3 hi hmu; exact absurd hmu (Nat.not_lt_zero _)
      | succ k ih =>
        intro v3 hi hmu
        rw [xX5_slow_l21]
        refine g_iload_n C (pc := 21) dX5_slow_21 2 rfl ?_
        refine g_aload_n C (pc := 22) dX5_slow_22 0 rfl ?_
        refine g_Vpi C (pc := 23) (As := []) (kX5_gaps l D cA T h M hz) (v_id (modW cA h) M 10 (fun _ => rfl) rfl) gX5_slow_X5_gaps rfl ⟨rfl, rfl⟩ ⟨Nat.le_of_ble_eq_true rfl, Nat.le_of_ble_eq_true rfl⟩ ⟨Nat.zero_le _, Nat.zero_le _⟩ rfl (Nat.le_of_ble_eq_true rfl) hdV_X5_gaps 0 rfl rfl rfl dX5_slow_23 ?_
        refine g_icmp_ge C (pc := 26) 61 dX5_slow_26 (by decide) (fun c4 => ?_) (fun c4 => ?_)
        · refine g_bipush C (pc := 61) dX5_slow_61 cB_m9 ?_
          exact r_ei C rfl dX5_slow_63 hz
        · refine g_aload_n C (pc := 29) dX5_slow_29 0 rfl ?_
          refine g_get C (pc := 30) inX5_slow_5 rfl 1 (by decide) (List.mem_of_getElem? (i := 1) rfl) dX5_slow_30 0 rfl (.ref (h 2)) rfl ?_
          refine g_iload_n C (pc := 33) dX5_slow_33 2 rfl ?_
          refine g_Spi C (pc := 34) (As := [.ref (h 2), .int v3]) (kX5_gapOf l D cA T (sh 2 h) (sh 2 M) v3 trivial (gp_hp hz (le01 hi) c4)) (v_mod_arr0_2 cA h M) gX5_slow_X5_gapOf rfl ⟨rfl, rfl⟩ ⟨Nat.le_of_ble_eq_true rfl, Nat.le_of_ble_eq_true rfl⟩ ⟨Nat.zero_le _, Nat.zero_le _⟩ rfl (Nat.le_of_ble_eq_true rfl) hdS_X5_gapOf rfl dX5_slow_34 ?_
          refine g_iload_n C (pc := 37) dX5_slow_37 1 rfl ?_
          refine g_aload_n C (pc := 38) dX5_slow_38 0 rfl ?_
          refine g_get C (pc := 39) inX5_slow_5 rfl 1 (by decide) (List.mem_of_getElem? (i := 1) rfl) dX5_slow_39 0 rfl (.ref (h 2)) rfl ?_
          refine g_iconst C (pc := 42) dX5_slow_42 cI_0 ?_
          refine g_Spi C (pc := 43) (As := [.ref (h 2), .int 0]) (kX5_gapOf l D cA T (sh 2 h) (sh 2 M) 0 trivial (by decide)) (v_mod_arr0_2 cA h M) gX5_slow_X5_gapOf rfl ⟨rfl, rfl⟩ ⟨Nat.le_of_ble_eq_true rfl, Nat.le_of_ble_eq_true rfl⟩ ⟨Nat.zero_le _, Nat.zero_le _⟩ rfl (Nat.le_of_ble_eq_true rfl) hdS_X5_gapOf rfl dX5_slow_43 ?_
          refine g_imul C (pc := 46) dX5_slow_46 ?_
          refine g_bipush C (pc := 47) dX5_slow_47 cB_10 ?_
          refine g_idiv C (pc := 49) dX5_slow_49 nz_10 ?_
          refine g_icmp_le C (pc := 50) 55 dX5_slow_50 (by decide) (fun c5 => ?_) (fun c5 => ?_)
          · refine g_iincN C (pc := 55) 1 (fun y => [(3, .int y), (0, .ref (h 0)), (1, .int p0)]) dX5_slow_55 2 rfl cI_1 (by decide) (fun _ => rfl) (fun x6 ex6 => ?_)
            refine g_goto C (pc := 58) 21 dX5_slow_58 (by decide) ?_
            refine g_sub [1, 2, 0] rfl ?_
            exact ih x6 (by rw [ex6]; exact ge_step hi c4) (by rw [ex6]; exact lp_dec c4 hmu)
          · refine g_iload_n C (pc := 53) dX5_slow_53 2 rfl ?_
            exact r_ei C rfl dX5_slow_54 hz
    refine g_sub [2, 3, 0] rfl ?_
    exact L21 _ 1 (by decide) (Nat.lt_succ_self _)
  · refine g_aload_n C (pc := 13) dX5_slow_13 1 rfl ?_
    refine g_iload_n C (pc := 14) dX5_slow_14 0 rfl ?_
    refine g_Vei C (pc := 15) (As := [.int x1]) (kX5_refuse l D cA T h M x1 hz (rf_vp (rf_of (by rw [ex1]; (repeat' split) <;> first | exact rf0_c (by decide) | exact rf0_within _ _ _ | exact rf0_wrongRun _ _ | exact rf0_wrongSorts _ _) c2))) (v_id (modW cA h) M 10 (fun _ => rfl) rfl) gX5_slow_X5_refuse rfl ⟨rfl, rfl⟩ ⟨Nat.le_of_ble_eq_true rfl, Nat.le_of_ble_eq_true rfl⟩ ⟨Nat.zero_le _, Nat.zero_le _⟩ rfl (Nat.le_of_ble_eq_true rfl) hdV_X5_refuse 0 rfl rfl rfl dX5_slow_15 (fun z7 ez7 hz_z7 => ?_)
    refine g_nmW (modW cA h) (fun M8 eM8 => ?_)
    have hz8 : (Zmod M8) := by rw [eM8]; exact hz_z7
    exact r_ei C rfl dX5_slow_18 hz8
theorem inX5_hour_5 : ∀ w ∈ u_ws RX5 TX5 14, w ∈ wsX5_hour := by decide +kernel
noncomputable def xX5_hour_l15 : Nat → St → Int32 → Int32 → Int32 → Int32 × St
  | 0, M, _, _, _ => (0, M)
  | k + 1, M, p0, v2, v3 => if (M 2 89) ≤ v3 then ((v2, M)) else (nm (if ((M 2 ((29 + v3) : Int32).toNatClampNeg) / 100) = p0 then (1) else (0) : Int32) fun v6 => nm ((v2 + v6) : Int32) fun x7 => nm (v3 + 1 : Int32) fun x8 => xX5_hour_l15 k M p0 x7 x8)
noncomputable def xX5_hour (M : St) (p0 : Int32) : Int32 × St := if 0 ≤ p0 then (xX5_hour_l15 (mu 0 (M 2 89) + 1) M p0 0 0) else (nm (xX5_refuse M (-4)) fun z9 => nm (z9.2) fun M10 => (z9.1, M10))
set_option maxHeartbeats 4000000 in
set_option maxRecDepth 100000 in
theorem kX5_hour (l : Launch) (D : va_G) (cA : ClassId) (T : Nat × Nat × Nat) (h : Nat → Nat) (M : St) (p0 : Int32) (hz : (Zmod M)) : ∀ sz : Nat, Met l yX5_hour wsX5_hour { frames := 1, cells := 0, slots := 0, locals := 21 } (va_Pc [.ref (h 0), .int p0] (PreW D cA T (modW cA h M) sz)) (va_Qi (fun r u => (r, u) = (xX5_hour M p0) ∧ (Zmod) u) (fun u => PostW D cA (va_A (modW cA h M) sz) (modW cA h u)) (va_A (modW cA h M) sz)) 0 0 (va_A (modW cA h M) sz) := by
  refine m_ei (Wf := modW cA h) (inv := (Zmod)) (cc := cX5_hour) (maxL := 4) (own := RX5) (by decide) rfl rfl (Nat.le_of_ble_eq_true rfl) (fun {p e s m args below meth c} A C X => ?_)
  show G p l e { frames := 1, cells := 0, slots := 0, locals := 21 } s m args below meth c 0 0 D A (Qei below D cA A args s 0 0 (modW cA h) (Zmod) X) 4 X (xX5_hour M p0) (modW cA h M) 0 [(0, .ref (h 0)), (1, .int p0)] []
  unfold xX5_hour
  refine g_iload_n C (pc := 0) dX5_hour_0 1 rfl ?_
  refine g_if_ge C (pc := 1) 11 dX5_hour_1 (by decide) (fun c1 => ?_) (fun c1 => ?_)
  · refine g_iconst C (pc := 11) dX5_hour_11 cI_0 ?_
    refine g_istore_n C (pc := 12) [(2, .int 0), (0, .ref (h 0)), (1, .int p0)] dX5_hour_12 (by decide) rfl ?_
    refine g_iconst C (pc := 13) dX5_hour_13 cI_0 ?_
    refine g_istore_n C (pc := 14) [(3, .int 0), (2, .int 0), (0, .ref (h 0)), (1, .int p0)] dX5_hour_14 (by decide) rfl ?_
    have L15 : ∀ (k : Nat) (v2 : Int32) (v3 : Int32), 0 ≤ (v3 : Int32).toInt → mu v3 (M 2 89) < k → G p l e { frames := 1, cells := 0, slots := 0, locals := 21 } s m args below meth c 0 0 D A (Qei below D cA A args s 0 0 (modW cA h) (Zmod) X) 4 X (xX5_hour_l15 k M p0 v2 v3) (modW cA h M) 15 [(0, .ref (h 0)), (1, .int p0), (2, .int v2), (3, .int v3)] [] := by
      intro k
      induction k with
      | zero => intro v2 v3 hi hmu; exact absurd hmu (Nat.not_lt_zero _)
      | succ k ih =>
        intro v2 v3 hi hmu
        rw [xX5_hour_l15]
        refine g_iload_n C (pc := 15) dX5_hour_15 3 rfl ?_
        refine g_aload_n C (pc := 16) dX5_hour_16 0 rfl ?_
        refine g_get C (pc := 17) inX5_hour_5 rfl 1 (by decide) (List.mem_of_getElem? (i := 1) rfl) dX5_hour_17 0 rfl (.ref (h 2)) rfl ?_
        refine g_bipush C (pc := 20) dX5_hour_20 cB_89 ?_
        refine g_iald C (pc := 22) dX5_hour_22 2 rfl inb_89_151 (M 2 89) (congrArg (M 2) tn_89) ?_
        refine g_icmp_ge C (pc := 23) 56 dX5_hour_23 (by decide) (fun c4 => ?_) (fun c4 => ?_)
        · refine g_iload_n C (pc := 56) dX5_hour_56 2 rfl ?_
          exact r_ei C rfl dX5_hour_57 hz
        · refine g_iload_n C (pc := 26) dX5_hour_26 2 rfl ?_
          refine g_aload_n C (pc := 27) dX5_hour_27 0 rfl ?_
          refine g_get C (pc := 28) inX5_hour_5 rfl 1 (by decide) (List.mem_of_getElem? (i := 1) rfl) dX5_hour_28 0 rfl (.ref (h 2)) rfl ?_
          refine g_bipush C (pc := 31) dX5_hour_31 cB_29 ?_
          refine g_iload_n C (pc := 33) dX5_hour_33 3 rfl ?_
          refine g_iadd C (pc := 34) dX5_hour_34 ?_
          refine g_iald C (pc := 35) dX5_hour_35 2 rfl (dot_in hz hi c4) (M 2 ((29 + v3) : Int32).toNatClampNeg) rfl ?_
          refine g_bipush C (pc := 36) dX5_hour_36 cB_100 ?_
          refine g_idiv C (pc := 38) dX5_hour_38 nz_100 ?_
          refine g_iload_n C (pc := 39) dX5_hour_39 1 rfl ?_
          refine g_join (α := Int32) (fun v6 => [(0, .ref (h 0)), (1, .int p0), (3, .int v3)]) (fun v6 => [.int v6, .int v2]) 48 (fun v6 ev6 => ?_) (fun Jv6 => ?_)
          · refine g_iadd C (pc := 48) dX5_hour_48 ?_
            refine g_nmi (fun x7 ex7 => ?_)
            refine g_istore_n C (pc := 49) [(2, .int x7), (0, .ref (h 0)), (1, .int p0), (3, .int v3)] dX5_hour_49 (by decide) rfl ?_
            refine g_iincN C (pc := 50) 1 (fun y => [(3, .int y), (2, .int x7), (0, .ref (h 0)), (1, .int p0)]) dX5_hour_50 3 rfl cI_1 (by decide) (fun _ => rfl) (fun x8 ex8 => ?_)
            refine g_goto C (pc := 53) 15 dX5_hour_53 (by decide) ?_
            refine g_sub [2, 3, 1, 0] rfl ?_
            exact ih x7 x8 (by rw [ex8]; exact ge_step hi c4) (by rw [ex8]; exact lp_dec c4 hmu)
          · refine g_icmp_ne0 C (pc := 40) 47 dX5_hour_40 (by decide) (fun c5 => ?_) (fun c5 => ?_)
            · refine g_iconst C (pc := 47) dX5_hour_47 cI_0 ?_
              refine g_sub [0, 1, 3] rfl ?_
              exact g_lf (if_neg c5) (Jv6 _ (Eq.symm (if_neg c5)))
            · refine g_iconst C (pc := 43) dX5_hour_43 cI_1 ?_
              refine g_goto C (pc := 44) 48 dX5_hour_44 (by decide) ?_
              refine g_sub [0, 1, 3] rfl ?_
              exact g_lf (if_pos c5) (Jv6 _ (Eq.symm (if_pos c5)))
    refine g_sub [2, 3, 1, 0] rfl ?_
    exact L15 _ 0 0 (by decide) (Nat.lt_succ_self _)
  · refine g_aload_n C (pc := 4) dX5_hour_4 0 rfl ?_
    refine g_bipush C (pc := 5) dX5_hour_5 cB_m4 ?_
    refine g_Vei C (pc := 7) (As := [.int (-4)]) (kX5_refuse l D cA T h M (-4) hz rf_m4) (v_id (modW cA h) M 10 (fun _ => rfl) rfl) gX5_hour_X5_refuse rfl ⟨rfl, rfl⟩ ⟨Nat.le_of_ble_eq_true rfl, Nat.le_of_ble_eq_true rfl⟩ ⟨Nat.zero_le _, Nat.zero_le _⟩ rfl (Nat.le_of_ble_eq_true rfl) hdV_X5_refuse 0 rfl rfl rfl dX5_hour_7 (fun z9 ez9 hz_z9 => ?_)
    refine g_nmW (modW cA h) (fun M10 eM10 => ?_)
    have hz10 : (Zmod M10) := by rw [eM10]; exact hz_z9
    exact r_ei C rfl dX5_hour_10 hz10
theorem inX5_gap_5 : ∀ w ∈ u_ws RX5 TX5 14, w ∈ wsX5_gap := by decide +kernel
noncomputable def xX5_gap (M : St) (p0 : Int32) : Int32 × St := nm ((xX5_within p0 0 9999) : Int32) fun x1 => nm (if x1 = 0 then (if M 0 13 = 10 then ((-6)) else (x1)) else (x1) : Int32) fun v4 => if v4 = 0 then (nm (sa M 9 (up (M 9) ((M 0 13 : Int32).toNatClampNeg) p0)) fun M6 => nm (sa M6 0 (up (M6 0) 13 (M6 0 13 + 1))) fun M7 => (M7 0 13, M7)) else (nm (xX5_refuse M v4) fun z8 => nm (z8.2) fun M9 => (z8.1, M9))
set_option maxHeartbeats 4000000 in
set_option maxRecDepth 100000 in
theorem kX5_gap (l : Launch) (D : va_G) (cA : ClassId) (T : Nat × Nat × Nat) (h : Nat → Nat) (M : St) (p0 : Int32) (hz : (Zmod M)) : ∀ sz : Nat, Met l yX5_gap wsX5_gap { frames := 1, cells := 0, slots := 0, locals := 22 } (va_Pc [.ref (h 0), .int p0] (PreW D cA T (modW cA h M) sz)) (va_Qi (fun r u => (r, u) = (xX5_gap M p0) ∧ (Zmod) u) (fun u => PostW D cA (va_A (modW cA h M) sz) (modW cA h u)) (va_A (modW cA h M) sz)) 0 0 (va_A (modW cA h M) sz) := by
  refine m_ei (Wf := modW cA h) (inv := (Zmod)) (cc := cX5_gap) (maxL := 3) (own := RX5) (by decide) rfl rfl (Nat.le_of_ble_eq_true rfl) (fun {p e s m args below meth c} A C X => ?_)
  show G p l e { frames := 1, cells := 0, slots := 0, locals := 22 } s m args below meth c 0 0 D A (Qei below D cA A args s 0 0 (modW cA h) (Zmod) X) 3 X (xX5_gap M p0) (modW cA h M) 0 [(0, .ref (h 0)), (1, .int p0)] []
  unfold xX5_gap
  refine g_iload_n C (pc := 0) dX5_gap_0 1 rfl ?_
  refine g_iconst C (pc := 1) dX5_gap_1 cI_0 ?_
  refine g_sipush C (pc := 2) dX5_gap_2 cS_9999 ?_
  refine g_Spi C (pc := 5) (As := [.int p0, .int 0, .int 9999]) (kX5_within l D cA T p0 0 9999) (v_none (modW cA h M) 10 rfl rfl) gX5_gap_X5_within rfl ⟨rfl, rfl⟩ ⟨Nat.le_of_ble_eq_true rfl, Nat.le_of_ble_eq_true rfl⟩ ⟨Nat.zero_le _, Nat.zero_le _⟩ rfl (Nat.le_of_ble_eq_true rfl) hdS_X5_within rfl dX5_gap_5 ?_
  refine g_nmi (fun x1 ex1 => ?_)
  refine g_istore_n C (pc := 8) [(2, .int x1), (0, .ref (h 0)), (1, .int p0)] dX5_gap_8 (by decide) rfl ?_
  refine g_iload_n C (pc := 9) dX5_gap_9 0 rfl ?_
  refine g_join (α := Int32) (fun v4 => [(0, .ref (h 0)), (1, .int p0), (2, .int v4)]) (fun v4 => []) 25 (fun v4 ev4 => ?_) (fun Jv4 => ?_)
  · refine g_iload_n C (pc := 25) dX5_gap_25 2 rfl ?_
    refine g_if_eq C (pc := 26) 35 dX5_gap_26 (by decide) (fun c5 => ?_) (fun c5 => ?_)
    · refine g_aload_n C (pc := 35) dX5_gap_35 0 rfl ?_
      refine g_get C (pc := 36) inX5_gap_5 rfl 12 (by decide) (List.mem_of_getElem? (i := 2) rfl) dX5_gap_36 0 rfl (.ref (h 9)) rfl ?_
      refine g_aload_n C (pc := 39) dX5_gap_39 0 rfl ?_
      refine g_get C (pc := 40) inX5_gap_5 rfl 13 (by decide) (List.mem_of_getElem? (i := 1) rfl) dX5_gap_40 0 rfl (.int (M 0 13)) rfl ?_
      refine g_iload_n C (pc := 43) dX5_gap_43 1 rfl ?_
      refine g_iast C (pc := 44) dX5_gap_44 9 rfl (row_in hz (gap_c ev4 c5)) ((M 0 13 : Int32).toNatClampNeg) rfl (modW cA h) (sa M 9 (up (M 9) ((M 0 13 : Int32).toNatClampNeg) p0)) rfl (fun M6 eM6 => ?_)
      have hz6 : (Zmod M6) := by rw [eM6]; exact hz
      refine g_aload_n C (pc := 45) dX5_gap_45 0 rfl ?_
      refine g_dup C (pc := 46) dX5_gap_46 rfl ?_
      refine g_get C (pc := 47) inX5_gap_5 rfl 13 (by decide) (List.mem_of_getElem? (i := 1) rfl) dX5_gap_47 0 rfl (.int (M6 0 13)) rfl ?_
      refine g_iconst C (pc := 50) dX5_gap_50 cI_1 ?_
      refine g_iadd C (pc := 51) dX5_gap_51 ?_
      refine g_put C (pc := 52) tyX5 tyX5_ok nmX5 inX5_gap_5 rfl 13 (by decide) rfl (List.mem_of_getElem? (i := 1) rfl) dX5_gap_52 rfl rfl 0 rfl (Nat.le_of_ble_eq_true rfl) (modW cA h) (sa M6 0 (up (M6 0) 13 (M6 0 13 + 1))) rfl (fun M7 eM7 => ?_)
      have hz7 : (Zmod M7) := (row_z hz6 (by rw [eM6]; exact gap_c ev4 c5) eM7)
      refine g_aload_n C (pc := 55) dX5_gap_55 0 rfl ?_
      refine g_get C (pc := 56) inX5_gap_5 rfl 13 (by decide) (List.mem_of_getElem? (i := 1) rfl) dX5_gap_56 0 rfl (.int (M7 0 13)) rfl ?_
      exact r_ei C rfl dX5_gap_59 hz7
    · refine g_aload_n C (pc := 29) dX5_gap_29 0 rfl ?_
      refine g_iload_n C (pc := 30) dX5_gap_30 2 rfl ?_
      refine g_Vei C (pc := 31) (As := [.int v4]) (kX5_refuse l D cA T h M v4 hz (rf_vp (rf_of (by rw [ev4]; (repeat' split) <;> first | exact rf0_c (by decide) | exact rf0_within _ _ _ | exact rf0_wrongRun _ _ | exact rf0_wrongSorts _ _ | (rw [ex1]; exact rf0_within _ _ _)) c5))) (v_id (modW cA h) M 10 (fun _ => rfl) rfl) gX5_gap_X5_refuse rfl ⟨rfl, rfl⟩ ⟨Nat.le_of_ble_eq_true rfl, Nat.le_of_ble_eq_true rfl⟩ ⟨Nat.zero_le _, Nat.zero_le _⟩ rfl (Nat.le_of_ble_eq_true rfl) hdV_X5_refuse 0 rfl rfl rfl dX5_gap_31 (fun z8 ez8 hz_z8 => ?_)
      refine g_nmW (modW cA h) (fun M9 eM9 => ?_)
      have hz9 : (Zmod M9) := by rw [eM9]; exact hz_z8
      exact r_ei C rfl dX5_gap_34 hz9
  · refine g_if_ne0 C (pc := 10) 25 dX5_gap_10 (by decide) (fun c2 => ?_) (fun c2 => ?_)
    · refine g_sub [1, 2, 0] rfl ?_
      exact g_lf (if_neg c2) (Jv4 _ (Eq.symm (if_neg c2)))
    · refine g_aload_n C (pc := 13) dX5_gap_13 1 rfl ?_
      refine g_get C (pc := 14) inX5_gap_5 rfl 13 (by decide) (List.mem_of_getElem? (i := 1) rfl) dX5_gap_14 0 rfl (.int (M 0 13)) rfl ?_
      refine g_bipush C (pc := 17) dX5_gap_17 cB_10 ?_
      refine g_icmp_ne0 C (pc := 19) 25 dX5_gap_19 (by decide) (fun c3 => ?_) (fun c3 => ?_)
      · refine g_sub [1, 2, 0] rfl ?_
        exact g_lf ((if_pos c2).trans (if_neg c3)) (Jv4 _ (Eq.symm ((if_pos c2).trans (if_neg c3))))
      · refine g_bipush C (pc := 22) dX5_gap_22 cB_m6 ?_
        refine g_istore_n C (pc := 24) [(2, .int (-6)), (0, .ref (h 0)), (1, .int p0)] dX5_gap_24 (by decide) rfl ?_
        refine g_sub [1, 2, 0] rfl ?_
        exact g_lf ((if_pos c2).trans (if_pos c3)) (Jv4 _ (Eq.symm ((if_pos c2).trans (if_pos c3))))
theorem inX5_judge_5 : ∀ w ∈ u_ws RX5 TX5 14, w ∈ wsX5_judge := by decide +kernel
noncomputable def xX5_judge_l32 : Nat → St → Int32 → Int32 → Int32 → Int32 × St
  | 0, M4, _, _, _ => (0, M4)
  | k + 1, M4, p0, x3, v5 => if (xX5_gaps M4) ≤ v5 then (if x3 ≤ (xX5_gaps M4) then (((-9), M4)) else (((xX5_gaps M4), M4))) else (if v5 = x3 then ((x3, M4)) else (if (xX5_amount ((xX5_gapOf (sh 2 M4) v5) - (M4 9 (v5 : Int32).toNatClampNeg))) ≤ p0 then (nm (v5 + 1 : Int32) fun x10 => xX5_judge_l32 k M4 p0 x3 x10) else ((v5, M4))))
noncomputable def xX5_judge (M : St) (p0 : Int32) : Int32 × St := nm ((xX5_within p0 0 9999) : Int32) fun x1 => if x1 = 0 then (nm (M 0 13 : Int32) fun x3 => nm (sa M 0 (up (M 0) 13 0)) fun M4 => xX5_judge_l32 (mu 0 (xX5_gaps M4) + 1) M4 p0 x3 0) else (nm (xX5_refuse M x1) fun z11 => nm (z11.2) fun M12 => (z11.1, M12))
set_option maxHeartbeats 4000000 in
set_option maxRecDepth 100000 in
theorem kX5_judge (l : Launch) (D : va_G) (cA : ClassId) (T : Nat × Nat × Nat) (h : Nat → Nat) (M : St) (p0 : Int32) (hz : (Zmod M)) : ∀ sz : Nat, Met l yX5_judge wsX5_judge { frames := 1, cells := 0, slots := 0, locals := 22 } (va_Pc [.ref (h 0), .int p0] (PreW D cA T (modW cA h M) sz)) (va_Qi (fun r u => (r, u) = (xX5_judge M p0) ∧ (Zmod) u) (fun u => PostW D cA (va_A (modW cA h M) sz) (modW cA h u)) (va_A (modW cA h M) sz)) 0 0 (va_A (modW cA h M) sz) := by
  refine m_ei (Wf := modW cA h) (inv := (Zmod)) (cc := cX5_judge) (maxL := 5) (own := RX5) (by decide) rfl rfl (Nat.le_of_ble_eq_true rfl) (fun {p e s m args below meth c} A C X => ?_)
  show G p l e { frames := 1, cells := 0, slots := 0, locals := 22 } s m args below meth c 0 0 D A (Qei below D cA A args s 0 0 (modW cA h) (Zmod) X) 5 X (xX5_judge M p0) (modW cA h M) 0 [(0, .ref (h 0)), (1, .int p0)] []
  unfold xX5_judge
  refine g_iload_n C (pc := 0) dX5_judge_0 1 rfl ?_
  refine g_iconst C (pc := 1) dX5_judge_1 cI_0 ?_
  refine g_sipush C (pc := 2) dX5_judge_2 cS_9999 ?_
  refine g_Spi C (pc := 5) (As := [.int p0, .int 0, .int 9999]) (kX5_within l D cA T p0 0 9999) (v_none (modW cA h M) 10 rfl rfl) gX5_judge_X5_within rfl ⟨rfl, rfl⟩ ⟨Nat.le_of_ble_eq_true rfl, Nat.le_of_ble_eq_true rfl⟩ ⟨Nat.zero_le _, Nat.zero_le _⟩ rfl (Nat.le_of_ble_eq_true rfl) hdS_X5_within rfl dX5_judge_5 ?_
  refine g_nmi (fun x1 ex1 => ?_)
  refine g_istore_n C (pc := 8) [(2, .int x1), (0, .ref (h 0)), (1, .int p0)] dX5_judge_8 (by decide) rfl ?_
  refine g_iload_n C (pc := 9) dX5_judge_9 0 rfl ?_
  refine g_if_eq C (pc := 10) 19 dX5_judge_10 (by decide) (fun c2 => ?_) (fun c2 => ?_)
  · refine g_aload_n C (pc := 19) dX5_judge_19 1 rfl ?_
    refine g_get C (pc := 20) inX5_judge_5 rfl 13 (by decide) (List.mem_of_getElem? (i := 1) rfl) dX5_judge_20 0 rfl (.int (M 0 13)) rfl ?_
    refine g_nmi (fun x3 ex3 => ?_)
    refine g_istore_n C (pc := 23) [(3, .int x3), (2, .int x1), (0, .ref (h 0)), (1, .int p0)] dX5_judge_23 (by decide) rfl ?_
    refine g_aload_n C (pc := 24) dX5_judge_24 2 rfl ?_
    refine g_iconst C (pc := 25) dX5_judge_25 cI_0 ?_
    refine g_put C (pc := 26) tyX5 tyX5_ok nmX5 inX5_judge_5 rfl 13 (by decide) rfl (List.mem_of_getElem? (i := 1) rfl) dX5_judge_26 rfl rfl 0 rfl (Nat.le_of_ble_eq_true rfl) (modW cA h) (sa M 0 (up (M 0) 13 0)) rfl (fun M4 eM4 => ?_)
    have hz4 : (Zmod M4) := (row_0 hz eM4)
    refine g_iconst C (pc := 29) dX5_judge_29 cI_0 ?_
    refine g_istore C (pc := 30) [(4, .int 0), (3, .int x3), (2, .int x1), (0, .ref (h 0)), (1, .int p0)] dX5_judge_30 (by decide) rfl ?_
    have L32 : ∀ (k : Nat) (v5 : Int32), 0 ≤ (v5 : Int32).toInt ∧ (v5 : Int32).toInt ≤ (x3 : Int32).toInt → mu v5 (xX5_gaps M4) < k → G p l e { frames := 1, cells := 0, slots := 0, locals := 22 } s m args below meth c 0 0 D A (Qei below D cA A args s 0 0 (modW cA h) (Zmod) X) 5 X (xX5_judge_l32 k M4 p0 x3 v5) (modW cA h M4) 32 [(0, .ref (h 0)), (1, .int p0), (3, .int x3), (4, .int v5)] [] := by
      intro k
      induction k with
      | zero => intro v5 hi hmu; exact absurd hmu (Nat.not_lt_zero _)
      | succ k ih =>
        intro v5 hi hmu
        rw [xX5_judge_l32]
        refine g_iload C (pc := 32) dX5_judge_32 3 rfl ?_
        refine g_aload_n C (pc := 34) dX5_judge_34 0 rfl ?_
        refine g_Vpi C (pc := 35) (As := []) (kX5_gaps l D cA T h M4 hz4) (v_id (modW cA h) M4 10 (fun _ => rfl) rfl) gX5_judge_X5_gaps rfl ⟨rfl, rfl⟩ ⟨Nat.le_of_ble_eq_true rfl, Nat.le_of_ble_eq_true rfl⟩ ⟨Nat.zero_le _, Nat.zero_le _⟩ rfl (Nat.le_of_ble_eq_true rfl) hdV_X5_gaps 0 rfl rfl rfl dX5_judge_35 ?_
        refine g_icmp_ge C (pc := 38) 82 dX5_judge_38 (by decide) (fun c6 => ?_) (fun c6 => ?_)
        · refine g_iload_n C (pc := 82) dX5_judge_82 2 rfl ?_
          refine g_aload_n C (pc := 83) dX5_judge_83 0 rfl ?_
          refine g_Vpi C (pc := 84) (As := []) (kX5_gaps l D cA T h M4 hz4) (v_id (modW cA h) M4 10 (fun _ => rfl) rfl) gX5_judge_X5_gaps rfl ⟨rfl, rfl⟩ ⟨Nat.le_of_ble_eq_true rfl, Nat.le_of_ble_eq_true rfl⟩ ⟨Nat.zero_le _, Nat.zero_le _⟩ rfl (Nat.le_of_ble_eq_true rfl) hdV_X5_gaps 0 rfl rfl rfl dX5_judge_84 ?_
          refine g_icmp_le C (pc := 87) 97 dX5_judge_87 (by decide) (fun c7 => ?_) (fun c7 => ?_)
          · refine g_bipush C (pc := 97) dX5_judge_97 cB_m9 ?_
            exact r_ei C rfl dX5_judge_99 hz4
          · refine g_aload_n C (pc := 90) dX5_judge_90 0 rfl ?_
            refine g_Vpi C (pc := 91) (As := []) (kX5_gaps l D cA T h M4 hz4) (v_id (modW cA h) M4 10 (fun _ => rfl) rfl) gX5_judge_X5_gaps rfl ⟨rfl, rfl⟩ ⟨Nat.le_of_ble_eq_true rfl, Nat.le_of_ble_eq_true rfl⟩ ⟨Nat.zero_le _, Nat.zero_le _⟩ rfl (Nat.le_of_ble_eq_true rfl) hdV_X5_gaps 0 rfl rfl rfl dX5_judge_91 ?_
            refine g_goto C (pc := 94) 99 dX5_judge_94 (by decide) ?_
            exact r_ei C rfl dX5_judge_99 hz4
        · refine g_iload C (pc := 41) dX5_judge_41 3 rfl ?_
          refine g_iload_n C (pc := 43) dX5_judge_43 2 rfl ?_
          refine g_icmp_ne C (pc := 44) 49 dX5_judge_44 (by decide) (fun c8 => ?_) (fun c8 => ?_)
          · refine g_aload_n C (pc := 49) dX5_judge_49 0 rfl ?_
            refine g_get C (pc := 50) inX5_judge_5 rfl 1 (by decide) (List.mem_of_getElem? (i := 2) rfl) dX5_judge_50 0 rfl (.ref (h 2)) rfl ?_
            refine g_iload C (pc := 53) dX5_judge_53 3 rfl ?_
            refine g_Spi C (pc := 55) (As := [.ref (h 2), .int v5]) (kX5_gapOf l D cA T (sh 2 h) (sh 2 M4) v5 trivial (gp_hp hz4 hi.1 c6)) (v_mod_arr0_2 cA h M4) gX5_judge_X5_gapOf rfl ⟨rfl, rfl⟩ ⟨Nat.le_of_ble_eq_true rfl, Nat.le_of_ble_eq_true rfl⟩ ⟨Nat.zero_le _, Nat.zero_le _⟩ rfl (Nat.le_of_ble_eq_true rfl) hdS_X5_gapOf rfl dX5_judge_55 ?_
            refine g_aload_n C (pc := 58) dX5_judge_58 0 rfl ?_
            refine g_get C (pc := 59) inX5_judge_5 rfl 12 (by decide) (List.mem_of_getElem? (i := 3) rfl) dX5_judge_59 0 rfl (.ref (h 9)) rfl ?_
            refine g_iload C (pc := 62) dX5_judge_62 3 rfl ?_
            refine g_iald C (pc := 64) dX5_judge_64 9 rfl (ju_in hz ex3 hi c8) (M4 9 (v5 : Int32).toNatClampNeg) rfl ?_
            refine g_isub C (pc := 65) dX5_judge_65 ?_
            refine g_Spi C (pc := 66) (As := [.int ((xX5_gapOf (sh 2 M4) v5) - (M4 9 (v5 : Int32).toNatClampNeg))]) (kX5_amount l D cA T ((xX5_gapOf (sh 2 M4) v5) - (M4 9 (v5 : Int32).toNatClampNeg))) (v_none (modW cA h M4) 10 rfl rfl) gX5_judge_X5_amount rfl ⟨rfl, rfl⟩ ⟨Nat.le_of_ble_eq_true rfl, Nat.le_of_ble_eq_true rfl⟩ ⟨Nat.zero_le _, Nat.zero_le _⟩ rfl (Nat.le_of_ble_eq_true rfl) hdS_X5_amount rfl dX5_judge_66 ?_
            refine g_iload_n C (pc := 69) dX5_judge_69 1 rfl ?_
            refine g_icmp_le C (pc := 70) 76 dX5_judge_70 (by decide) (fun c9 => ?_) (fun c9 => ?_)
            · refine g_iincN C (pc := 76) 1 (fun y => [(4, .int y), (0, .ref (h 0)), (1, .int p0), (3, .int x3)]) dX5_judge_76 3 rfl cI_1 (by decide) (fun _ => rfl) (fun x10 ex10 => ?_)
              refine g_goto C (pc := 79) 32 dX5_judge_79 (by decide) ?_
              refine g_sub [1, 2, 3, 0] rfl ?_
              exact ih x10 (by rw [ex10]; exact ju_k hi c8) (by rw [ex10]; exact lp_dec c6 hmu)
            · refine g_iload C (pc := 73) dX5_judge_73 3 rfl ?_
              exact r_ei C rfl dX5_judge_75 hz4
          · refine g_iload_n C (pc := 47) dX5_judge_47 2 rfl ?_
            exact r_ei C rfl dX5_judge_48 hz4
    refine g_sub [3, 4, 1, 0] rfl ?_
    exact L32 _ 0 (by rw [ex3]; exact ⟨by decide, hz.2.2.2.2.1⟩) (Nat.lt_succ_self _)
  · refine g_aload_n C (pc := 13) dX5_judge_13 1 rfl ?_
    refine g_iload_n C (pc := 14) dX5_judge_14 0 rfl ?_
    refine g_Vei C (pc := 15) (As := [.int x1]) (kX5_refuse l D cA T h M x1 hz (rf_vp (rf_of (by rw [ex1]; (repeat' split) <;> first | exact rf0_c (by decide) | exact rf0_within _ _ _ | exact rf0_wrongRun _ _ | exact rf0_wrongSorts _ _) c2))) (v_id (modW cA h) M 10 (fun _ => rfl) rfl) gX5_judge_X5_refuse rfl ⟨rfl, rfl⟩ ⟨Nat.le_of_ble_eq_true rfl, Nat.le_of_ble_eq_true rfl⟩ ⟨Nat.zero_le _, Nat.zero_le _⟩ rfl (Nat.le_of_ble_eq_true rfl) hdV_X5_refuse 0 rfl rfl rfl dX5_judge_15 (fun z11 ez11 hz_z11 => ?_)
    refine g_nmW (modW cA h) (fun M12 eM12 => ?_)
    have hz12 : (Zmod M12) := by rw [eM12]; exact hz_z11
    exact r_ei C rfl dX5_judge_18 hz12
theorem inX5_isAsTold_5 : ∀ w ∈ u_ws RX5 TX5 14, w ∈ wsX5_isAsTold := by decide +kernel
noncomputable def xX5_isAsTold_l32 : Nat → St → Int32 → Int32 → Int32 × St
  | 0, M2, _, _ => (0, M2)
  | k + 1, M2, p1, v5 => if M2 0 13 ≤ v5 then ((1, M2)) else (if (xX5_amount ((xX5_gapOf (sh 4 M2) v5) - (M2 9 (v5 : Int32).toNatClampNeg))) ≤ p1 then (nm (v5 + 1 : Int32) fun x8 => xX5_isAsTold_l32 k M2 p1 x8) else ((0, M2)))
noncomputable def xX5_isAsTold (M : St) (p0 : Int32) (p1 : Int32) : Int32 × St := nm (xX5_freshBy M 8 p0 3000) fun z1 => nm (z1.2) fun M2 => nm (z1.1 : Int32) fun x3 => if (M2 0 13 + 1) ≤ (M2 4 89) then (xX5_isAsTold_l32 (mu 0 (M2 0 13) + 1) M2 p1 0) else ((0, M2))
set_option maxHeartbeats 4000000 in
set_option maxRecDepth 100000 in
theorem kX5_isAsTold (l : Launch) (D : va_G) (cA : ClassId) (T : Nat × Nat × Nat) (h : Nat → Nat) (M : St) (p0 : Int32) (p1 : Int32) (hz : (Zmod M)) : ∀ sz : Nat, Met l yX5_isAsTold wsX5_isAsTold { frames := 5, cells := 0, slots := 0, locals := 118 } (va_Pc [.ref (h 0), .int p0, .int p1] (PreW D cA T (modW cA h M) sz)) (va_Qi (fun r u => (r, u) = (xX5_isAsTold M p0 p1) ∧ (Zmod) u) (fun u => PostW D cA (va_A (modW cA h M) sz) (modW cA h u)) (va_A (modW cA h M) sz)) 0 0 (va_A (modW cA h M) sz) := by
  refine m_ei (Wf := modW cA h) (inv := (Zmod)) (cc := cX5_isAsTold) (maxL := 5) (own := RX5) (by decide) rfl rfl (Nat.le_of_ble_eq_true rfl) (fun {p e s m args below meth c} A C X => ?_)
  show G p l e { frames := 5, cells := 0, slots := 0, locals := 118 } s m args below meth c 0 0 D A (Qei below D cA A args s 0 0 (modW cA h) (Zmod) X) 5 X (xX5_isAsTold M p0 p1) (modW cA h M) 0 [(0, .ref (h 0)), (1, .int p0), (2, .int p1)] []
  unfold xX5_isAsTold
  refine g_aload_n C (pc := 0) dX5_isAsTold_0 0 rfl ?_
  refine g_bipush C (pc := 1) dX5_isAsTold_1 cB_8 ?_
  refine g_iload_n C (pc := 3) dX5_isAsTold_3 1 rfl ?_
  refine g_sipush C (pc := 4) dX5_isAsTold_4 cS_3000 ?_
  refine g_Vei C (pc := 7) (As := [.int 8, .int p0, .int 3000]) (kX5_freshBy l D cA T h M 8 p0 3000 hz (in_p 8 15 (by decide)) (ne6 (by decide))) (v_id (modW cA h) M 10 (fun _ => rfl) rfl) gX5_isAsTold_X5_freshBy rfl ⟨rfl, rfl⟩ ⟨Nat.le_of_ble_eq_true rfl, Nat.le_of_ble_eq_true rfl⟩ ⟨Nat.zero_le _, Nat.zero_le _⟩ rfl (Nat.le_of_ble_eq_true rfl) hdV_X5_freshBy 0 rfl rfl rfl dX5_isAsTold_7 (fun z1 ez1 hz_z1 => ?_)
  refine g_nmW (modW cA h) (fun M2 eM2 => ?_)
  have hz2 : (Zmod M2) := by rw [eM2]; exact hz_z1
  refine g_nmi (fun x3 ex3 => ?_)
  refine g_istore_n C (pc := 10) [(3, .int x3), (0, .ref (h 0)), (1, .int p0), (2, .int p1)] dX5_isAsTold_10 (by decide) rfl ?_
  refine g_aload_n C (pc := 11) dX5_isAsTold_11 1 rfl ?_
  refine g_get C (pc := 12) inX5_isAsTold_5 rfl 3 (by decide) (List.mem_of_getElem? (i := 1) rfl) dX5_isAsTold_12 0 rfl (.ref (h 4)) rfl ?_
  refine g_bipush C (pc := 15) dX5_isAsTold_15 cB_89 ?_
  refine g_iald C (pc := 17) dX5_isAsTold_17 4 rfl inb_89_151 (M2 4 89) (congrArg (M2 4) tn_89) ?_
  refine g_aload_n C (pc := 18) dX5_isAsTold_18 1 rfl ?_
  refine g_get C (pc := 19) inX5_isAsTold_5 rfl 13 (by decide) (List.mem_of_getElem? (i := 2) rfl) dX5_isAsTold_19 0 rfl (.int (M2 0 13)) rfl ?_
  refine g_iconst C (pc := 22) dX5_isAsTold_22 cI_1 ?_
  refine g_iadd C (pc := 23) dX5_isAsTold_23 ?_
  refine g_icmp_ge C (pc := 24) 29 dX5_isAsTold_24 (by decide) (fun c4 => ?_) (fun c4 => ?_)
  · refine g_iconst C (pc := 29) dX5_isAsTold_29 cI_0 ?_
    refine g_istore C (pc := 30) [(4, .int 0), (3, .int x3), (0, .ref (h 0)), (1, .int p0), (2, .int p1)] dX5_isAsTold_30 (by decide) rfl ?_
    have L32 : ∀ (k : Nat) (v5 : Int32), 0 ≤ (v5 : Int32).toInt → mu v5 (M2 0 13) < k → G p l e { frames := 5, cells := 0, slots := 0, locals := 118 } s m args below meth c 0 0 D A (Qei below D cA A args s 0 0 (modW cA h) (Zmod) X) 5 X (xX5_isAsTold_l32 k M2 p1 v5) (modW cA h M2) 32 [(0, .ref (h 0)), (2, .int p1), (4, .int v5)] [] := by
      intro k
      induction k with
      | zero => intro v5 hi hmu; exact absurd hmu (Nat.not_lt_zero _)
      | succ k ih =>
        intro v5 hi hmu
        rw [xX5_isAsTold_l32]
        refine g_iload C (pc := 32) dX5_isAsTold_32 2 rfl ?_
        refine g_aload_n C (pc := 34) dX5_isAsTold_34 0 rfl ?_
        refine g_get C (pc := 35) inX5_isAsTold_5 rfl 13 (by decide) (List.mem_of_getElem? (i := 2) rfl) dX5_isAsTold_35 0 rfl (.int (M2 0 13)) rfl ?_
        refine g_icmp_ge C (pc := 38) 73 dX5_isAsTold_38 (by decide) (fun c6 => ?_) (fun c6 => ?_)
        · refine g_iconst C (pc := 73) dX5_isAsTold_73 cI_1 ?_
          exact r_ez C rfl (rfl) dX5_isAsTold_74 hz2
        · refine g_aload_n C (pc := 41) dX5_isAsTold_41 0 rfl ?_
          refine g_get C (pc := 42) inX5_isAsTold_5 rfl 3 (by decide) (List.mem_of_getElem? (i := 1) rfl) dX5_isAsTold_42 0 rfl (.ref (h 4)) rfl ?_
          refine g_iload C (pc := 45) dX5_isAsTold_45 2 rfl ?_
          refine g_Spi C (pc := 47) (As := [.ref (h 4), .int v5]) (kX5_gapOf l D cA T (sh 4 h) (sh 4 M2) v5 trivial (is_hp hz2 hi c6)) (v_mod_arr0_4 cA h M2) gX5_isAsTold_X5_gapOf rfl ⟨rfl, rfl⟩ ⟨Nat.le_of_ble_eq_true rfl, Nat.le_of_ble_eq_true rfl⟩ ⟨Nat.zero_le _, Nat.zero_le _⟩ rfl (Nat.le_of_ble_eq_true rfl) hdS_X5_gapOf rfl dX5_isAsTold_47 ?_
          refine g_aload_n C (pc := 50) dX5_isAsTold_50 0 rfl ?_
          refine g_get C (pc := 51) inX5_isAsTold_5 rfl 12 (by decide) (List.mem_of_getElem? (i := 3) rfl) dX5_isAsTold_51 0 rfl (.ref (h 9)) rfl ?_
          refine g_iload C (pc := 54) dX5_isAsTold_54 2 rfl ?_
          refine g_iald C (pc := 56) dX5_isAsTold_56 9 rfl (is_row hz2 hi c6) (M2 9 (v5 : Int32).toNatClampNeg) rfl ?_
          refine g_isub C (pc := 57) dX5_isAsTold_57 ?_
          refine g_Spi C (pc := 58) (As := [.int ((xX5_gapOf (sh 4 M2) v5) - (M2 9 (v5 : Int32).toNatClampNeg))]) (kX5_amount l D cA T ((xX5_gapOf (sh 4 M2) v5) - (M2 9 (v5 : Int32).toNatClampNeg))) (v_none (modW cA h M2) 10 rfl rfl) gX5_isAsTold_X5_amount rfl ⟨rfl, rfl⟩ ⟨Nat.le_of_ble_eq_true rfl, Nat.le_of_ble_eq_true rfl⟩ ⟨Nat.zero_le _, Nat.zero_le _⟩ rfl (Nat.le_of_ble_eq_true rfl) hdS_X5_amount rfl dX5_isAsTold_58 ?_
          refine g_iload_n C (pc := 61) dX5_isAsTold_61 1 rfl ?_
          refine g_icmp_le C (pc := 62) 67 dX5_isAsTold_62 (by decide) (fun c7 => ?_) (fun c7 => ?_)
          · refine g_iincN C (pc := 67) 1 (fun y => [(4, .int y), (0, .ref (h 0)), (2, .int p1)]) dX5_isAsTold_67 2 rfl cI_1 (by decide) (fun _ => rfl) (fun x8 ex8 => ?_)
            refine g_goto C (pc := 70) 32 dX5_isAsTold_70 (by decide) ?_
            refine g_sub [1, 2, 0] rfl ?_
            exact ih x8 (by rw [ex8]; exact ge_step hi c6) (by rw [ex8]; exact lp_dec c6 hmu)
          · refine g_iconst C (pc := 65) dX5_isAsTold_65 cI_0 ?_
            exact r_ez C rfl (rfl) dX5_isAsTold_66 hz2
    refine g_sub [2, 4, 0] rfl ?_
    exact L32 _ 0 (by decide) (Nat.lt_succ_self _)
  · refine g_iconst C (pc := 27) dX5_isAsTold_27 cI_0 ?_
    exact r_ez C rfl (rfl) dX5_isAsTold_28 hz2
theorem inX5_driest_5 : ∀ w ∈ u_ws RX5 TX5 14, w ∈ wsX5_driest := by decide +kernel
noncomputable def xX5_driest_l62 : Nat → St → Int32 → Int32 → Int32 → Int32 → Int32 → Int32 → Int32 × St
  | 0, M13, _, _, _, _, _, _ => (0, M13)
  | k + 1, M13, p0, p1, v9, v10, v11, v12 => if 95 < v12 then (if p1 = 0 then ((v9, M13)) else (if p1 = 1 then ((v10, M13)) else ((v11, M13)))) else (nm (xX5_isAsTold M13 v12 p0) fun z17 => nm (z17.2) fun M18 => if z17.1 = 0 then (nm (v12 + 5 : Int32) fun x24 => xX5_driest_l62 k M18 p0 p1 v9 v10 v11 x24) else (nm (if 0 ≤ v9 then (v9) else (v12) : Int32) fun v21 => nm (v11 + 1 : Int32) fun x22 => nm (v12 + 5 : Int32) fun x23 => xX5_driest_l62 k M18 p0 p1 v21 v12 x22 x23))
noncomputable def xX5_driest (M : St) (p0 : Int32) (p1 : Int32) : Int32 × St := if (xX5_isIn p1 3) = 0 then (nm (xX5_refuse M (-2)) fun z27 => nm (z27.2) fun M28 => (z27.1, M28)) else (nm ((xX5_within p0 0 9999) : Int32) fun x2 => nm (if x2 = 0 then (if M 0 13 = 0 then ((-3)) else (x2)) else (x2) : Int32) fun v5 => if v5 = 0 then (nm ((-9) : Int32) fun x7 => nm ((-9) : Int32) fun x8 => xX5_driest_l62 (muE 0 95 + 1) M p0 p1 x7 x8 0 0) else (nm (xX5_refuse M v5) fun z25 => nm (z25.2) fun M26 => (z25.1, M26)))
set_option maxHeartbeats 4000000 in
set_option maxRecDepth 100000 in
theorem kX5_driest (l : Launch) (D : va_G) (cA : ClassId) (T : Nat × Nat × Nat) (h : Nat → Nat) (M : St) (p0 : Int32) (p1 : Int32) (hz : (Zmod M)) : ∀ sz : Nat, Met l yX5_driest wsX5_driest { frames := 6, cells := 0, slots := 0, locals := 142 } (va_Pc [.ref (h 0), .int p0, .int p1] (PreW D cA T (modW cA h M) sz)) (va_Qi (fun r u => (r, u) = (xX5_driest M p0 p1) ∧ (Zmod) u) (fun u => PostW D cA (va_A (modW cA h M) sz) (modW cA h u)) (va_A (modW cA h M) sz)) 0 0 (va_A (modW cA h M) sz) := by
  refine m_ei (Wf := modW cA h) (inv := (Zmod)) (cc := cX5_driest) (maxL := 8) (own := RX5) (by decide) rfl rfl (Nat.le_of_ble_eq_true rfl) (fun {p e s m args below meth c} A C X => ?_)
  show G p l e { frames := 6, cells := 0, slots := 0, locals := 142 } s m args below meth c 0 0 D A (Qei below D cA A args s 0 0 (modW cA h) (Zmod) X) 8 X (xX5_driest M p0 p1) (modW cA h M) 0 [(0, .ref (h 0)), (1, .int p0), (2, .int p1)] []
  unfold xX5_driest
  refine g_iload_n C (pc := 0) dX5_driest_0 2 rfl ?_
  refine g_iconst C (pc := 1) dX5_driest_1 cI_3 ?_
  refine g_Spi C (pc := 2) (As := [.int p1, .int 3]) (kX5_isIn l D cA T p1 3) (v_none (modW cA h M) 10 rfl rfl) gX5_driest_X5_isIn rfl ⟨rfl, rfl⟩ ⟨Nat.le_of_ble_eq_true rfl, Nat.le_of_ble_eq_true rfl⟩ ⟨Nat.zero_le _, Nat.zero_le _⟩ rfl (Nat.le_of_ble_eq_true rfl) hdS_X5_isIn rfl dX5_driest_2 ?_
  refine g_if_ne C (pc := 5) 15 dX5_driest_5 (by decide) (fun c1 => ?_) (fun c1 => ?_)
  · refine g_iload_n C (pc := 15) dX5_driest_15 1 rfl ?_
    refine g_iconst C (pc := 16) dX5_driest_16 cI_0 ?_
    refine g_sipush C (pc := 17) dX5_driest_17 cS_9999 ?_
    refine g_Spi C (pc := 20) (As := [.int p0, .int 0, .int 9999]) (kX5_within l D cA T p0 0 9999) (v_none (modW cA h M) 10 rfl rfl) gX5_driest_X5_within rfl ⟨rfl, rfl⟩ ⟨Nat.le_of_ble_eq_true rfl, Nat.le_of_ble_eq_true rfl⟩ ⟨Nat.zero_le _, Nat.zero_le _⟩ rfl (Nat.le_of_ble_eq_true rfl) hdS_X5_within rfl dX5_driest_20 ?_
    refine g_nmi (fun x2 ex2 => ?_)
    refine g_istore_n C (pc := 23) [(3, .int x2), (0, .ref (h 0)), (1, .int p0), (2, .int p1)] dX5_driest_23 (by decide) rfl ?_
    refine g_iload_n C (pc := 24) dX5_driest_24 0 rfl ?_
    refine g_join (α := Int32) (fun v5 => [(0, .ref (h 0)), (1, .int p0), (2, .int p1), (3, .int v5)]) (fun v5 => []) 38 (fun v5 ev5 => ?_) (fun Jv5 => ?_)
    · refine g_iload_n C (pc := 38) dX5_driest_38 3 rfl ?_
      refine g_if_eq C (pc := 39) 48 dX5_driest_39 (by decide) (fun c6 => ?_) (fun c6 => ?_)
      · refine g_bipush C (pc := 48) dX5_driest_48 cB_m9 ?_
        refine g_nmi (fun x7 ex7 => ?_)
        refine g_istore C (pc := 50) [(4, .int x7), (0, .ref (h 0)), (1, .int p0), (2, .int p1), (3, .int v5)] dX5_driest_50 (by decide) rfl ?_
        refine g_bipush C (pc := 52) dX5_driest_52 cB_m9 ?_
        refine g_nmi (fun x8 ex8 => ?_)
        refine g_istore C (pc := 54) [(5, .int x8), (4, .int x7), (0, .ref (h 0)), (1, .int p0), (2, .int p1), (3, .int v5)] dX5_driest_54 (by decide) rfl ?_
        refine g_iconst C (pc := 56) dX5_driest_56 cI_0 ?_
        refine g_istore C (pc := 57) [(6, .int 0), (5, .int x8), (4, .int x7), (0, .ref (h 0)), (1, .int p0), (2, .int p1), (3, .int v5)] dX5_driest_57 (by decide) rfl ?_
        refine g_iconst C (pc := 59) dX5_driest_59 cI_0 ?_
        refine g_istore C (pc := 60) [(7, .int 0), (6, .int 0), (5, .int x8), (4, .int x7), (0, .ref (h 0)), (1, .int p0), (2, .int p1), (3, .int v5)] dX5_driest_60 (by decide) rfl ?_
        have L62 : ∀ (k : Nat) (M13 : St) (v9 : Int32) (v10 : Int32) (v11 : Int32) (v12 : Int32), (Zmod M13) → muE v12 95 < k → G p l e { frames := 6, cells := 0, slots := 0, locals := 142 } s m args below meth c 0 0 D A (Qei below D cA A args s 0 0 (modW cA h) (Zmod) X) 8 X (xX5_driest_l62 k M13 p0 p1 v9 v10 v11 v12) (modW cA h M13) 62 [(0, .ref (h 0)), (1, .int p0), (2, .int p1), (4, .int v9), (5, .int v10), (6, .int v11), (7, .int v12)] [] := by
          intro k
          induction k with
          | zero => intro M13 v9 v10 v11 v12 hz13 hmu; exact absurd hmu (Nat.not_lt_zero _)
          | succ k ih =>
            intro M13 v9 v10 v11 v12 hz13 hmu
            rw [xX5_driest_l62]
            refine g_iload C (pc := 62) dX5_driest_62 6 rfl ?_
            refine g_bipush C (pc := 64) dX5_driest_64 cB_95 ?_
            refine g_icmp_gt C (pc := 66) 109 dX5_driest_66 (by decide) (fun c14 => ?_) (fun c14 => ?_)
            · refine g_iload_n C (pc := 109) dX5_driest_109 2 rfl ?_
              refine g_if_ne C (pc := 110) 118 dX5_driest_110 (by decide) (fun c15 => ?_) (fun c15 => ?_)
              · refine g_iload_n C (pc := 118) dX5_driest_118 2 rfl ?_
                refine g_iconst C (pc := 119) dX5_driest_119 cI_1 ?_
                refine g_icmp_ne C (pc := 120) 128 dX5_driest_120 (by decide) (fun c16 => ?_) (fun c16 => ?_)
                · refine g_iload C (pc := 128) dX5_driest_128 5 rfl ?_
                  exact r_ei C rfl dX5_driest_130 hz13
                · refine g_iload C (pc := 123) dX5_driest_123 4 rfl ?_
                  refine g_goto C (pc := 125) 130 dX5_driest_125 (by decide) ?_
                  exact r_ei C rfl dX5_driest_130 hz13
              · refine g_iload C (pc := 113) dX5_driest_113 3 rfl ?_
                refine g_goto C (pc := 115) 130 dX5_driest_115 (by decide) ?_
                exact r_ei C rfl dX5_driest_130 hz13
            · refine g_aload_n C (pc := 69) dX5_driest_69 0 rfl ?_
              refine g_iload C (pc := 70) dX5_driest_70 6 rfl ?_
              refine g_iload_n C (pc := 72) dX5_driest_72 1 rfl ?_
              refine g_Vei C (pc := 73) (As := [.int v12, .int p0]) (kX5_isAsTold l D cA T h M13 v12 p0 hz13) (v_id (modW cA h) M13 10 (fun _ => rfl) rfl) gX5_driest_X5_isAsTold rfl ⟨rfl, rfl⟩ ⟨Nat.le_of_ble_eq_true rfl, Nat.le_of_ble_eq_true rfl⟩ ⟨Nat.zero_le _, Nat.zero_le _⟩ rfl (Nat.le_of_ble_eq_true rfl) hdV_X5_isAsTold 0 rfl rfl rfl dX5_driest_73 (fun z17 ez17 hz_z17 => ?_)
              refine g_nmW (modW cA h) (fun M18 eM18 => ?_)
              have hz18 : (Zmod M18) := by rw [eM18]; exact hz_z17
              refine g_if_ne C (pc := 76) 82 dX5_driest_76 (by decide) (fun c19 => ?_) (fun c19 => ?_)
              · refine g_iload C (pc := 82) dX5_driest_82 3 rfl ?_
                refine g_join (α := Int32) (fun v21 => [(0, .ref (h 0)), (1, .int p0), (2, .int p1), (6, .int v11), (7, .int v12)]) (fun v21 => [.int v21]) 94 (fun v21 ev21 => ?_) (fun Jv21 => ?_)
                · refine g_istore C (pc := 94) [(4, .int v21), (0, .ref (h 0)), (1, .int p0), (2, .int p1), (6, .int v11), (7, .int v12)] dX5_driest_94 (by decide) rfl ?_
                  refine g_iload C (pc := 96) dX5_driest_96 5 rfl ?_
                  refine g_istore C (pc := 98) [(5, .int v12), (4, .int v21), (0, .ref (h 0)), (1, .int p0), (2, .int p1), (6, .int v11), (7, .int v12)] dX5_driest_98 (by decide) rfl ?_
                  refine g_iincN C (pc := 100) 1 (fun y => [(6, .int y), (5, .int v12), (4, .int v21), (0, .ref (h 0)), (1, .int p0), (2, .int p1), (7, .int v12)]) dX5_driest_100 5 rfl cI_1 (by decide) (fun _ => rfl) (fun x22 ex22 => ?_)
                  refine g_iincN C (pc := 103) 5 (fun y => [(7, .int y), (6, .int x22), (5, .int v12), (4, .int v21), (0, .ref (h 0)), (1, .int p0), (2, .int p1)]) dX5_driest_103 6 rfl cI_5 (by decide) (fun _ => rfl) (fun x23 ex23 => ?_)
                  refine g_goto C (pc := 106) 62 dX5_driest_106 (by decide) ?_
                  refine g_sub [4, 5, 6, 3, 2, 1, 0] rfl ?_
                  exact ih M18 v21 v12 x22 x23 hz18 (by rw [ex23]; exact lp_decE (d := 5) (by decide) (by decide) c14 hmu)
                · refine g_if_ge0 C (pc := 84) 92 dX5_driest_84 (by decide) (fun c20 => ?_) (fun c20 => ?_)
                  · refine g_iload C (pc := 92) dX5_driest_92 3 rfl ?_
                    refine g_sub [0, 1, 2, 5, 6] rfl ?_
                    exact g_lf (if_pos c20) (Jv21 _ (Eq.symm (if_pos c20)))
                  · refine g_iload C (pc := 87) dX5_driest_87 6 rfl ?_
                    refine g_goto C (pc := 89) 94 dX5_driest_89 (by decide) ?_
                    refine g_sub [0, 1, 2, 5, 6] rfl ?_
                    exact g_lf (if_neg c20) (Jv21 _ (Eq.symm (if_neg c20)))
              · refine g_goto C (pc := 79) 103 dX5_driest_79 (by decide) ?_
                refine g_iincN C (pc := 103) 5 (fun y => [(7, .int y), (0, .ref (h 0)), (1, .int p0), (2, .int p1), (4, .int v9), (5, .int v10), (6, .int v11)]) dX5_driest_103 6 rfl cI_5 (by decide) (fun _ => rfl) (fun x24 ex24 => ?_)
                refine g_goto C (pc := 106) 62 dX5_driest_106 (by decide) ?_
                refine g_sub [1, 2, 3, 4, 5, 6, 0] rfl ?_
                exact ih M18 v9 v10 v11 x24 hz18 (by rw [ex24]; exact lp_decE (d := 5) (by decide) (by decide) c14 hmu)
        refine g_sub [4, 5, 6, 3, 2, 1, 0] rfl ?_
        exact L62 _ M x7 x8 0 0 hz (Nat.lt_succ_self _)
      · refine g_aload_n C (pc := 42) dX5_driest_42 0 rfl ?_
        refine g_iload_n C (pc := 43) dX5_driest_43 3 rfl ?_
        refine g_Vei C (pc := 44) (As := [.int v5]) (kX5_refuse l D cA T h M v5 hz (rf_vp (rf_of (by rw [ev5]; (repeat' split) <;> first | exact rf0_c (by decide) | exact rf0_within _ _ _ | exact rf0_wrongRun _ _ | exact rf0_wrongSorts _ _ | (rw [ex2]; exact rf0_within _ _ _)) c6))) (v_id (modW cA h) M 10 (fun _ => rfl) rfl) gX5_driest_X5_refuse rfl ⟨rfl, rfl⟩ ⟨Nat.le_of_ble_eq_true rfl, Nat.le_of_ble_eq_true rfl⟩ ⟨Nat.zero_le _, Nat.zero_le _⟩ rfl (Nat.le_of_ble_eq_true rfl) hdV_X5_refuse 0 rfl rfl rfl dX5_driest_44 (fun z25 ez25 hz_z25 => ?_)
        refine g_nmW (modW cA h) (fun M26 eM26 => ?_)
        have hz26 : (Zmod M26) := by rw [eM26]; exact hz_z25
        exact r_ei C rfl dX5_driest_47 hz26
    · refine g_if_ne0 C (pc := 25) 38 dX5_driest_25 (by decide) (fun c3 => ?_) (fun c3 => ?_)
      · refine g_sub [1, 2, 3, 0] rfl ?_
        exact g_lf (if_neg c3) (Jv5 _ (Eq.symm (if_neg c3)))
      · refine g_aload_n C (pc := 28) dX5_driest_28 1 rfl ?_
        refine g_get C (pc := 29) inX5_driest_5 rfl 13 (by decide) (List.mem_of_getElem? (i := 1) rfl) dX5_driest_29 0 rfl (.int (M 0 13)) rfl ?_
        refine g_if_ne0 C (pc := 32) 38 dX5_driest_32 (by decide) (fun c4 => ?_) (fun c4 => ?_)
        · refine g_sub [1, 2, 3, 0] rfl ?_
          exact g_lf ((if_pos c3).trans (if_neg c4)) (Jv5 _ (Eq.symm ((if_pos c3).trans (if_neg c4))))
        · refine g_bipush C (pc := 35) dX5_driest_35 cB_m3 ?_
          refine g_istore_n C (pc := 37) [(3, .int (-3)), (0, .ref (h 0)), (1, .int p0), (2, .int p1)] dX5_driest_37 (by decide) rfl ?_
          refine g_sub [1, 2, 3, 0] rfl ?_
          exact g_lf ((if_pos c3).trans (if_pos c4)) (Jv5 _ (Eq.symm ((if_pos c3).trans (if_pos c4))))
  · refine g_aload_n C (pc := 8) dX5_driest_8 0 rfl ?_
    refine g_bipush C (pc := 9) dX5_driest_9 cB_m2 ?_
    refine g_Vei C (pc := 11) (As := [.int (-2)]) (kX5_refuse l D cA T h M (-2) hz rf_m2) (v_id (modW cA h) M 10 (fun _ => rfl) rfl) gX5_driest_X5_refuse rfl ⟨rfl, rfl⟩ ⟨Nat.le_of_ble_eq_true rfl, Nat.le_of_ble_eq_true rfl⟩ ⟨Nat.zero_le _, Nat.zero_le _⟩ rfl (Nat.le_of_ble_eq_true rfl) hdV_X5_refuse 0 rfl rfl rfl dX5_driest_11 (fun z27 ez27 hz_z27 => ?_)
    refine g_nmW (modW cA h) (fun M28 eM28 => ?_)
    have hz28 : (Zmod M28) := by rw [eM28]; exact hz_z27
    exact r_ei C rfl dX5_driest_14 hz28
theorem inX5_isSort_5 : ∀ w ∈ u_ws RX5 TX5 14, w ∈ wsX5_isSort := by decide +kernel
noncomputable def xX5_isSort_j83 (M8 : St) (x1 : Int32) (v7 : Int32) : Int32 × St := nm (sa M8 2 (up (M8 2) 3 x1)) fun M9 => (v7, M9)
noncomputable def xX5_isSort_l26 : Nat → St → Int32 → Int32 → Int32 → Int32 → Int32 → Int32 → Int32 × St
  | 0, M6, _, _, _, _, _, _ => (0, M6)
  | k + 1, M6, p1, p2, x1, v3, v4, v5 => if 3 ≤ v5 then (xX5_isSort_j83 M6 x1 v3) else (if v3 = 0 then (xX5_isSort_j83 M6 x1 v3) else (nm (xX5_freshBy M6 8 ((p1 / v4) - (p1 / v4) / 100 * 100) 1000) fun z12 => nm (z12.2) fun M13 => nm (if z12.1 = ((p2 / v4) - (p2 / v4) / 100 * 100) then (1) else (0) : Int32) fun v15 => nm ((v4 / 100) : Int32) fun x16 => nm (v5 + 1 : Int32) fun x17 => xX5_isSort_l26 k M13 p1 p2 x1 v15 x16 x17))
noncomputable def xX5_isSort (M : St) (p0 : Int32) (p1 : Int32) (p2 : Int32) : Int32 × St := nm ((M 2 3) : Int32) fun x1 => nm (sa M 2 (up (M 2) 3 p0)) fun M2 => xX5_isSort_l26 (mu 0 3 + 1) M2 p1 p2 x1 1 10000 0
set_option maxHeartbeats 4000000 in
set_option maxRecDepth 100000 in
theorem kX5_isSort (l : Launch) (D : va_G) (cA : ClassId) (T : Nat × Nat × Nat) (h : Nat → Nat) (M : St) (p0 : Int32) (p1 : Int32) (p2 : Int32) (hz : (Zmod M)) : ∀ sz : Nat, Met l yX5_isSort wsX5_isSort { frames := 5, cells := 0, slots := 0, locals := 118 } (va_Pc [.ref (h 0), .int p0, .int p1, .int p2] (PreW D cA T (modW cA h M) sz)) (va_Qi (fun r u => (r, u) = (xX5_isSort M p0 p1 p2) ∧ (Zmod) u) (fun u => PostW D cA (va_A (modW cA h M) sz) (modW cA h u)) (va_A (modW cA h M) sz)) 0 0 (va_A (modW cA h M) sz) := by
  refine m_ei (Wf := modW cA h) (inv := (Zmod)) (cc := cX5_isSort) (maxL := 8) (own := RX5) (by decide) rfl rfl (Nat.le_of_ble_eq_true rfl) (fun {p e s m args below meth c} A C X => ?_)
  show G p l e { frames := 5, cells := 0, slots := 0, locals := 118 } s m args below meth c 0 0 D A (Qei below D cA A args s 0 0 (modW cA h) (Zmod) X) 8 X (xX5_isSort M p0 p1 p2) (modW cA h M) 0 [(0, .ref (h 0)), (1, .int p0), (2, .int p1), (3, .int p2)] []
  unfold xX5_isSort
  refine g_aload_n C (pc := 0) dX5_isSort_0 0 rfl ?_
  refine g_get C (pc := 1) inX5_isSort_5 rfl 1 (by decide) (List.mem_of_getElem? (i := 1) rfl) dX5_isSort_1 0 rfl (.ref (h 2)) rfl ?_
  refine g_iconst C (pc := 4) dX5_isSort_4 cI_3 ?_
  refine g_iald C (pc := 5) dX5_isSort_5 2 rfl inb_3_151 (M 2 3) (congrArg (M 2) tn_3) ?_
  refine g_nmi (fun x1 ex1 => ?_)
  refine g_istore C (pc := 6) [(4, .int x1), (0, .ref (h 0)), (1, .int p0), (2, .int p1), (3, .int p2)] dX5_isSort_6 (by decide) rfl ?_
  refine g_aload_n C (pc := 8) dX5_isSort_8 1 rfl ?_
  refine g_get C (pc := 9) inX5_isSort_5 rfl 1 (by decide) (List.mem_of_getElem? (i := 1) rfl) dX5_isSort_9 0 rfl (.ref (h 2)) rfl ?_
  refine g_iconst C (pc := 12) dX5_isSort_12 cI_3 ?_
  refine g_iload_n C (pc := 13) dX5_isSort_13 2 rfl ?_
  refine g_iast C (pc := 14) dX5_isSort_14 2 rfl inb_3_151 (3) tn_3 (modW cA h) (sa M 2 (up (M 2) 3 p0)) rfl (fun M2 eM2 => ?_)
  have hz2 : (Zmod M2) := by rw [eM2]; exact hz
  refine g_iconst C (pc := 15) dX5_isSort_15 cI_1 ?_
  refine g_istore C (pc := 16) [(5, .int 1), (4, .int x1), (0, .ref (h 0)), (1, .int p0), (2, .int p1), (3, .int p2)] dX5_isSort_16 (by decide) rfl ?_
  refine g_sipush C (pc := 18) dX5_isSort_18 cS_10000 ?_
  refine g_istore C (pc := 21) [(6, .int 10000), (5, .int 1), (4, .int x1), (0, .ref (h 0)), (1, .int p0), (2, .int p1), (3, .int p2)] dX5_isSort_21 (by decide) rfl ?_
  refine g_iconst C (pc := 23) dX5_isSort_23 cI_0 ?_
  refine g_istore C (pc := 24) [(7, .int 0), (6, .int 10000), (5, .int 1), (4, .int x1), (0, .ref (h 0)), (1, .int p0), (2, .int p1), (3, .int p2)] dX5_isSort_24 (by decide) rfl ?_
  have L26 : ∀ (k : Nat) (M6 : St) (v3 : Int32) (v4 : Int32) (v5 : Int32), (Zmod M6) → uq v5 v4 → (v3 = 0 ∨ v3 = 1) → mu v5 3 < k → G p l e { frames := 5, cells := 0, slots := 0, locals := 118 } s m args below meth c 0 0 D A (Qei below D cA A args s 0 0 (modW cA h) (Zmod) X) 8 X (xX5_isSort_l26 k M6 p1 p2 x1 v3 v4 v5) (modW cA h M6) 26 [(0, .ref (h 0)), (2, .int p1), (3, .int p2), (4, .int x1), (5, .int v3), (6, .int v4), (7, .int v5)] [] := by
    intro k
    induction k with
    | zero => intro M6 v3 v4 v5 hz6 hu hb hmu; exact absurd hmu (Nat.not_lt_zero _)
    | succ k ih =>
      intro M6 v3 v4 v5 hz6 hu hb hmu
      rw [xX5_isSort_l26]
      refine g_iload C (pc := 26) dX5_isSort_26 6 rfl ?_
      refine g_iconst C (pc := 28) dX5_isSort_28 cI_3 ?_
      have J83 : ∀ (M8 : St) (v7 : Int32), (Zmod M8) → (v7 = 0 ∨ v7 = 1) → G p l e { frames := 5, cells := 0, slots := 0, locals := 118 } s m args below meth c 0 0 D A (Qei below D cA A args s 0 0 (modW cA h) (Zmod) X) 8 X (xX5_isSort_j83 M8 x1 v7) (modW cA h M8) 83 [(0, .ref (h 0)), (4, .int x1), (5, .int v7)] [] := by
        intro M8 v7 hz8 hb
        unfold xX5_isSort_j83
        refine g_aload_n C (pc := 83) dX5_isSort_83 0 rfl ?_
        refine g_get C (pc := 84) inX5_isSort_5 rfl 1 (by decide) (List.mem_of_getElem? (i := 1) rfl) dX5_isSort_84 0 rfl (.ref (h 2)) rfl ?_
        refine g_iconst C (pc := 87) dX5_isSort_87 cI_3 ?_
        refine g_iload C (pc := 88) dX5_isSort_88 1 rfl ?_
        refine g_iast C (pc := 90) dX5_isSort_90 2 rfl inb_3_151 (3) tn_3 (modW cA h) (sa M8 2 (up (M8 2) 3 x1)) rfl (fun M9 eM9 => ?_)
        have hz9 : (Zmod M9) := by rw [eM9]; exact hz8
        refine g_iload C (pc := 91) dX5_isSort_91 2 rfl ?_
        exact r_ez C rfl ((bz_of hb)) dX5_isSort_93 hz9
      refine g_icmp_ge C (pc := 29) 83 dX5_isSort_29 (by decide) (fun c10 => ?_) (fun c10 => ?_)
      · refine g_sub [0, 3, 4] rfl ?_
        exact J83 M6 v3 hz6 hb
      · refine g_iload C (pc := 32) dX5_isSort_32 4 rfl ?_
        refine g_if_eq C (pc := 34) 83 dX5_isSort_34 (by decide) (fun c11 => ?_) (fun c11 => ?_)
        · refine g_sub [0, 3, 4] rfl ?_
          exact J83 M6 v3 hz6 hb
        · refine g_aload_n C (pc := 37) dX5_isSort_37 0 rfl ?_
          refine g_bipush C (pc := 38) dX5_isSort_38 cB_8 ?_
          refine g_iload_n C (pc := 40) dX5_isSort_40 1 rfl ?_
          refine g_iload C (pc := 41) dX5_isSort_41 5 rfl ?_
          refine g_idiv C (pc := 43) dX5_isSort_43 (uq_nz hu c10) ?_
          refine g_bipush C (pc := 44) dX5_isSort_44 cB_100 ?_
          refine g_irem C (pc := 46) dX5_isSort_46 nz_100 ?_
          refine g_sipush C (pc := 47) dX5_isSort_47 cS_1000 ?_
          refine g_Vei C (pc := 50) (As := [.int 8, .int ((p1 / v4) - (p1 / v4) / 100 * 100), .int 1000]) (kX5_freshBy l D cA T h M6 8 ((p1 / v4) - (p1 / v4) / 100 * 100) 1000 hz6 (in_p 8 15 (by decide)) (ne6 (by decide))) (v_id (modW cA h) M6 10 (fun _ => rfl) rfl) gX5_isSort_X5_freshBy rfl ⟨rfl, rfl⟩ ⟨Nat.le_of_ble_eq_true rfl, Nat.le_of_ble_eq_true rfl⟩ ⟨Nat.zero_le _, Nat.zero_le _⟩ rfl (Nat.le_of_ble_eq_true rfl) hdV_X5_freshBy 0 rfl rfl rfl dX5_isSort_50 (fun z12 ez12 hz_z12 => ?_)
          refine g_nmW (modW cA h) (fun M13 eM13 => ?_)
          have hz13 : (Zmod M13) := by rw [eM13]; exact hz_z12
          refine g_iload_n C (pc := 53) dX5_isSort_53 2 rfl ?_
          refine g_iload C (pc := 54) dX5_isSort_54 5 rfl ?_
          refine g_idiv C (pc := 56) dX5_isSort_56 (uq_nz hu c10) ?_
          refine g_bipush C (pc := 57) dX5_isSort_57 cB_100 ?_
          refine g_irem C (pc := 59) dX5_isSort_59 nz_100 ?_
          refine g_join (α := Int32) (fun v15 => [(0, .ref (h 0)), (2, .int p1), (3, .int p2), (4, .int x1), (6, .int v4), (7, .int v5)]) (fun v15 => [.int v15]) 68 (fun v15 ev15 => ?_) (fun Jv15 => ?_)
          · refine g_istore C (pc := 68) [(5, .int v15), (0, .ref (h 0)), (2, .int p1), (3, .int p2), (4, .int x1), (6, .int v4), (7, .int v5)] dX5_isSort_68 (by decide) rfl ?_
            refine g_iload C (pc := 70) dX5_isSort_70 5 rfl ?_
            refine g_bipush C (pc := 72) dX5_isSort_72 cB_100 ?_
            refine g_idiv C (pc := 74) dX5_isSort_74 nz_100 ?_
            refine g_nmi (fun x16 ex16 => ?_)
            refine g_istore C (pc := 75) [(6, .int x16), (5, .int v15), (0, .ref (h 0)), (2, .int p1), (3, .int p2), (4, .int x1), (7, .int v5)] dX5_isSort_75 (by decide) rfl ?_
            refine g_iincN C (pc := 77) 1 (fun y => [(7, .int y), (6, .int x16), (5, .int v15), (0, .ref (h 0)), (2, .int p1), (3, .int p2), (4, .int x1)]) dX5_isSort_77 6 rfl cI_1 (by decide) (fun _ => rfl) (fun x17 ex17 => ?_)
            refine g_goto C (pc := 80) 26 dX5_isSort_80 (by decide) ?_
            refine g_sub [3, 4, 5, 6, 2, 1, 0] rfl ?_
            exact ih M13 v15 x16 x17 hz13 (uq_s hu c10 ex17 ex16) (by rw [ev15]; split <;> simp) (by rw [ex17]; exact lp_dec c10 hmu)
          · refine g_icmp_ne0 C (pc := 60) 67 dX5_isSort_60 (by decide) (fun c14 => ?_) (fun c14 => ?_)
            · refine g_iconst C (pc := 67) dX5_isSort_67 cI_0 ?_
              refine g_sub [0, 1, 2, 3, 5, 6] rfl ?_
              exact g_lf (if_neg c14) (Jv15 _ (Eq.symm (if_neg c14)))
            · refine g_iconst C (pc := 63) dX5_isSort_63 cI_1 ?_
              refine g_goto C (pc := 64) 68 dX5_isSort_64 (by decide) ?_
              refine g_sub [0, 1, 2, 3, 5, 6] rfl ?_
              exact g_lf (if_pos c14) (Jv15 _ (Eq.symm (if_pos c14)))
  refine g_sub [4, 6, 7, 3, 2, 1, 0] rfl ?_
  exact L26 _ M2 1 10000 0 hz2 uq_0 (Or.inr rfl) (Nat.lt_succ_self _)

noncomputable def xX5_sortsOf_l5 : Nat → St → Int32 → Int32 → Int32 → Int32 → Int32 × St
  | 0, M3, _, _, _, _ => (0, M3)
  | k + 1, M3, p0, p1, v1, v2 => if 10 ≤ v2 then ((v1, M3)) else (nm (xX5_isSort M3 v2 p0 p1) fun z5 => nm (z5.2) fun M6 => nm (if z5.1 = 0 then (0) else ((1 <<< (v2 &&& 31))) : Int32) fun v8 => nm ((v1 ||| v8) : Int32) fun x9 => nm (v2 + 1 : Int32) fun x10 => xX5_sortsOf_l5 k M6 p0 p1 x9 x10)
noncomputable def xX5_sortsOf (M : St) (p0 : Int32) (p1 : Int32) : Int32 × St := xX5_sortsOf_l5 (mu 1 10 + 1) M p0 p1 0 1
set_option maxHeartbeats 4000000 in
set_option maxRecDepth 100000 in
theorem kX5_sortsOf (l : Launch) (D : va_G) (cA : ClassId) (T : Nat × Nat × Nat) (h : Nat → Nat) (M : St) (p0 : Int32) (p1 : Int32) (hz : (Zmod M)) : ∀ sz : Nat, Met l yX5_sortsOf wsX5_sortsOf { frames := 6, cells := 0, slots := 0, locals := 145 } (va_Pc [.ref (h 0), .int p0, .int p1] (PreW D cA T (modW cA h M) sz)) (va_Qi (fun r u => (r, u) = (xX5_sortsOf M p0 p1) ∧ (Zmod) u) (fun u => PostW D cA (va_A (modW cA h M) sz) (modW cA h u)) (va_A (modW cA h M) sz)) 0 0 (va_A (modW cA h M) sz) := by
  refine m_ei (Wf := modW cA h) (inv := (Zmod)) (cc := cX5_sortsOf) (maxL := 5) (own := RX5) (by decide) rfl rfl (Nat.le_of_ble_eq_true rfl) (fun {p e s m args below meth c} A C X => ?_)
  show G p l e { frames := 6, cells := 0, slots := 0, locals := 145 } s m args below meth c 0 0 D A (Qei below D cA A args s 0 0 (modW cA h) (Zmod) X) 5 X (xX5_sortsOf M p0 p1) (modW cA h M) 0 [(0, .ref (h 0)), (1, .int p0), (2, .int p1)] []
  unfold xX5_sortsOf
  refine g_iconst C (pc := 0) dX5_sortsOf_0 cI_0 ?_
  refine g_istore_n C (pc := 1) [(3, .int 0), (0, .ref (h 0)), (1, .int p0), (2, .int p1)] dX5_sortsOf_1 (by decide) rfl ?_
  refine g_iconst C (pc := 2) dX5_sortsOf_2 cI_1 ?_
  refine g_istore C (pc := 3) [(4, .int 1), (3, .int 0), (0, .ref (h 0)), (1, .int p0), (2, .int p1)] dX5_sortsOf_3 (by decide) rfl ?_
  have L5 : ∀ (k : Nat) (M3 : St) (v1 : Int32) (v2 : Int32), (Zmod M3) → mu v2 10 < k → G p l e { frames := 6, cells := 0, slots := 0, locals := 145 } s m args below meth c 0 0 D A (Qei below D cA A args s 0 0 (modW cA h) (Zmod) X) 5 X (xX5_sortsOf_l5 k M3 p0 p1 v1 v2) (modW cA h M3) 5 [(0, .ref (h 0)), (1, .int p0), (2, .int p1), (3, .int v1), (4, .int v2)] [] := by
    intro k
    induction k with
    | zero => intro M3 v1 v2 hz3 hmu; exact absurd hmu (Nat.not_lt_zero _)
    | succ k ih =>
      intro M3 v1 v2 hz3 hmu
      rw [xX5_sortsOf_l5]
      refine g_iload C (pc := 5) dX5_sortsOf_5 4 rfl ?_
      refine g_bipush C (pc := 7) dX5_sortsOf_7 cB_10 ?_
      refine g_icmp_ge C (pc := 9) 40 dX5_sortsOf_9 (by decide) (fun c4 => ?_) (fun c4 => ?_)
      · refine g_iload_n C (pc := 40) dX5_sortsOf_40 3 rfl ?_
        exact r_ei C rfl dX5_sortsOf_41 hz3
      · refine g_iload_n C (pc := 12) dX5_sortsOf_12 3 rfl ?_
        refine g_aload_n C (pc := 13) dX5_sortsOf_13 0 rfl ?_
        refine g_iload C (pc := 14) dX5_sortsOf_14 4 rfl ?_
        refine g_iload_n C (pc := 16) dX5_sortsOf_16 1 rfl ?_
        refine g_iload_n C (pc := 17) dX5_sortsOf_17 2 rfl ?_
        refine g_Vei C (pc := 18) (As := [.int v2, .int p0, .int p1]) (kX5_isSort l D cA T h M3 v2 p0 p1 hz3) (v_id (modW cA h) M3 10 (fun _ => rfl) rfl) gX5_sortsOf_X5_isSort rfl ⟨rfl, rfl⟩ ⟨Nat.le_of_ble_eq_true rfl, Nat.le_of_ble_eq_true rfl⟩ ⟨Nat.zero_le _, Nat.zero_le _⟩ rfl (Nat.le_of_ble_eq_true rfl) hdV_X5_isSort 0 rfl rfl rfl dX5_sortsOf_18 (fun z5 ez5 hz_z5 => ?_)
        refine g_nmW (modW cA h) (fun M6 eM6 => ?_)
        have hz6 : (Zmod M6) := by rw [eM6]; exact hz_z5
        refine g_join (α := Int32) (fun v8 => [(0, .ref (h 0)), (1, .int p0), (2, .int p1), (4, .int v2)]) (fun v8 => [.int v8, .int v1]) 32 (fun v8 ev8 => ?_) (fun Jv8 => ?_)
        · refine g_ior C (pc := 32) dX5_sortsOf_32 ?_
          refine g_nmi (fun x9 ex9 => ?_)
          refine g_istore_n C (pc := 33) [(3, .int x9), (0, .ref (h 0)), (1, .int p0), (2, .int p1), (4, .int v2)] dX5_sortsOf_33 (by decide) rfl ?_
          refine g_iincN C (pc := 34) 1 (fun y => [(4, .int y), (3, .int x9), (0, .ref (h 0)), (1, .int p0), (2, .int p1)]) dX5_sortsOf_34 4 rfl cI_1 (by decide) (fun _ => rfl) (fun x10 ex10 => ?_)
          refine g_goto C (pc := 37) 5 dX5_sortsOf_37 (by decide) ?_
          refine g_sub [2, 3, 4, 1, 0] rfl ?_
          exact ih M6 x9 x10 hz6 (by rw [ex10]; exact lp_dec c4 hmu)
        · refine g_if_eq0 C (pc := 21) 31 dX5_sortsOf_21 (by decide) (fun c7 => ?_) (fun c7 => ?_)
          · refine g_iconst C (pc := 31) dX5_sortsOf_31 cI_0 ?_
            refine g_sub [0, 1, 2, 4] rfl ?_
            exact g_lf (if_pos c7) (Jv8 _ (Eq.symm (if_pos c7)))
          · refine g_iconst C (pc := 24) dX5_sortsOf_24 cI_1 ?_
            refine g_iload C (pc := 25) dX5_sortsOf_25 4 rfl ?_
            refine g_ishl C (pc := 27) dX5_sortsOf_27 ?_
            refine g_goto C (pc := 28) 32 dX5_sortsOf_28 (by decide) ?_
            refine g_sub [0, 1, 2, 4] rfl ?_
            exact g_lf (if_neg c7) (Jv8 _ (Eq.symm (if_neg c7)))
  refine g_sub [2, 3, 4, 1, 0] rfl ?_
  exact L5 _ M 0 1 hz (Nat.lt_succ_self _)

noncomputable def xX5_sorts (M : St) (p0 : Int32) (p1 : Int32) : Int32 × St := nm ((xX5_wrongSorts p0 p1) : Int32) fun x1 => if x1 = 0 then (nm (xX5_sortsOf M p0 p1) fun z3 => nm (z3.2) fun M4 => (z3.1, M4)) else (nm (xX5_refuse M x1) fun z5 => nm (z5.2) fun M6 => (z5.1, M6))
set_option maxHeartbeats 4000000 in
set_option maxRecDepth 100000 in
theorem kX5_sorts (l : Launch) (D : va_G) (cA : ClassId) (T : Nat × Nat × Nat) (h : Nat → Nat) (M : St) (p0 : Int32) (p1 : Int32) (hz : (Zmod M)) : ∀ sz : Nat, Met l yX5_sorts wsX5_sorts { frames := 7, cells := 0, slots := 0, locals := 169 } (va_Pc [.ref (h 0), .int p0, .int p1] (PreW D cA T (modW cA h M) sz)) (va_Qi (fun r u => (r, u) = (xX5_sorts M p0 p1) ∧ (Zmod) u) (fun u => PostW D cA (va_A (modW cA h M) sz) (modW cA h u)) (va_A (modW cA h M) sz)) 0 0 (va_A (modW cA h M) sz) := by
  refine m_ei (Wf := modW cA h) (inv := (Zmod)) (cc := cX5_sorts) (maxL := 4) (own := RX5) (by decide) rfl rfl (Nat.le_of_ble_eq_true rfl) (fun {p e s m args below meth c} A C X => ?_)
  show G p l e { frames := 7, cells := 0, slots := 0, locals := 169 } s m args below meth c 0 0 D A (Qei below D cA A args s 0 0 (modW cA h) (Zmod) X) 4 X (xX5_sorts M p0 p1) (modW cA h M) 0 [(0, .ref (h 0)), (1, .int p0), (2, .int p1)] []
  unfold xX5_sorts
  refine g_iload_n C (pc := 0) dX5_sorts_0 1 rfl ?_
  refine g_iload_n C (pc := 1) dX5_sorts_1 2 rfl ?_
  refine g_Spi C (pc := 2) (As := [.int p0, .int p1]) (kX5_wrongSorts l D cA T p0 p1) (v_none (modW cA h M) 10 rfl rfl) gX5_sorts_X5_wrongSorts rfl ⟨rfl, rfl⟩ ⟨Nat.le_of_ble_eq_true rfl, Nat.le_of_ble_eq_true rfl⟩ ⟨Nat.zero_le _, Nat.zero_le _⟩ rfl (Nat.le_of_ble_eq_true rfl) hdS_X5_wrongSorts rfl dX5_sorts_2 ?_
  refine g_nmi (fun x1 ex1 => ?_)
  refine g_istore_n C (pc := 5) [(3, .int x1), (0, .ref (h 0)), (1, .int p0), (2, .int p1)] dX5_sorts_5 (by decide) rfl ?_
  refine g_iload_n C (pc := 6) dX5_sorts_6 0 rfl ?_
  refine g_if_eq C (pc := 7) 18 dX5_sorts_7 (by decide) (fun c2 => ?_) (fun c2 => ?_)
  · refine g_aload_n C (pc := 18) dX5_sorts_18 1 rfl ?_
    refine g_iload_n C (pc := 19) dX5_sorts_19 2 rfl ?_
    refine g_iload_n C (pc := 20) dX5_sorts_20 3 rfl ?_
    refine g_Vei C (pc := 21) (As := [.int p0, .int p1]) (kX5_sortsOf l D cA T h M p0 p1 hz) (v_id (modW cA h) M 10 (fun _ => rfl) rfl) gX5_sorts_X5_sortsOf rfl ⟨rfl, rfl⟩ ⟨Nat.le_of_ble_eq_true rfl, Nat.le_of_ble_eq_true rfl⟩ ⟨Nat.zero_le _, Nat.zero_le _⟩ rfl (Nat.le_of_ble_eq_true rfl) hdV_X5_sortsOf 0 rfl rfl rfl dX5_sorts_21 (fun z3 ez3 hz_z3 => ?_)
    refine g_nmW (modW cA h) (fun M4 eM4 => ?_)
    have hz4 : (Zmod M4) := by rw [eM4]; exact hz_z3
    exact r_ei C rfl dX5_sorts_24 hz4
  · refine g_aload_n C (pc := 10) dX5_sorts_10 1 rfl ?_
    refine g_iload_n C (pc := 11) dX5_sorts_11 0 rfl ?_
    refine g_Vei C (pc := 12) (As := [.int x1]) (kX5_refuse l D cA T h M x1 hz (rf_vp (rf_of (by rw [ex1]; (repeat' split) <;> first | exact rf0_c (by decide) | exact rf0_within _ _ _ | exact rf0_wrongRun _ _ | exact rf0_wrongSorts _ _) c2))) (v_id (modW cA h) M 10 (fun _ => rfl) rfl) gX5_sorts_X5_refuse rfl ⟨rfl, rfl⟩ ⟨Nat.le_of_ble_eq_true rfl, Nat.le_of_ble_eq_true rfl⟩ ⟨Nat.zero_le _, Nat.zero_le _⟩ rfl (Nat.le_of_ble_eq_true rfl) hdV_X5_refuse 0 rfl rfl rfl dX5_sorts_12 (fun z5 ez5 hz_z5 => ?_)
    refine g_nmW (modW cA h) (fun M6 eM6 => ?_)
    have hz6 : (Zmod M6) := by rw [eM6]; exact hz_z5
    refine g_goto C (pc := 15) 24 dX5_sorts_15 (by decide) ?_
    exact r_ei C rfl dX5_sorts_24 hz6

noncomputable def xX5_odds_l75 : Nat → St → Int32 → Int32 → Int32 → Int32 × St
  | 0, M6, _, _, _ => (0, M6)
  | k + 1, M6, p3, v9, v10 => if v10 ≤ 0 then (if p3 = 0 then ((1, M6)) else ((v9, M6))) else (nm ((v9 + (v10 &&& 1)) : Int32) fun x13 => nm ((v10 >>> (1 &&& 31)) : Int32) fun x14 => xX5_odds_l75 k M6 p3 x13 x14)
noncomputable def xX5_odds (M : St) (p0 : Int32) (p1 : Int32) (p2 : Int32) (p3 : Int32) : Int32 × St := nm (if (xX5_isIn (p0 - 1) 9) = 0 then ((-1)) else (if (xX5_isIn p3 2) = 0 then ((-2)) else ((xX5_wrongSorts p1 p2))) : Int32) fun v3 => if v3 = 0 then (nm (xX5_sortsOf M p1 p2) fun z5 => nm (z5.2) fun M6 => nm (z5.1 : Int32) fun x7 => if ((x7 >>> (p0 &&& 31)) &&& 1) = 0 then ((p3, M6)) else (xX5_odds_l75 ((x7 : Int32).toInt.toNat + 1) M6 p3 0 x7)) else (nm (xX5_refuse M v3) fun z15 => nm (z15.2) fun M16 => (z15.1, M16))
set_option maxHeartbeats 4000000 in
set_option maxRecDepth 100000 in
theorem kX5_odds (l : Launch) (D : va_G) (cA : ClassId) (T : Nat × Nat × Nat) (h : Nat → Nat) (M : St) (p0 : Int32) (p1 : Int32) (p2 : Int32) (p3 : Int32) (hz : (Zmod M)) : ∀ sz : Nat, Met l yX5_odds wsX5_odds { frames := 7, cells := 0, slots := 0, locals := 169 } (va_Pc [.ref (h 0), .int p0, .int p1, .int p2, .int p3] (PreW D cA T (modW cA h M) sz)) (va_Qi (fun r u => (r, u) = (xX5_odds M p0 p1 p2 p3) ∧ (Zmod) u) (fun u => PostW D cA (va_A (modW cA h M) sz) (modW cA h u)) (va_A (modW cA h M) sz)) 0 0 (va_A (modW cA h M) sz) := by
  refine m_ei (Wf := modW cA h) (inv := (Zmod)) (cc := cX5_odds) (maxL := 9) (own := RX5) (by decide) rfl rfl (Nat.le_of_ble_eq_true rfl) (fun {p e s m args below meth c} A C X => ?_)
  show G p l e { frames := 7, cells := 0, slots := 0, locals := 169 } s m args below meth c 0 0 D A (Qei below D cA A args s 0 0 (modW cA h) (Zmod) X) 9 X (xX5_odds M p0 p1 p2 p3) (modW cA h M) 0 [(0, .ref (h 0)), (1, .int p0), (2, .int p1), (3, .int p2), (4, .int p3)] []
  unfold xX5_odds
  refine g_iload_n C (pc := 0) dX5_odds_0 1 rfl ?_
  refine g_iconst C (pc := 1) dX5_odds_1 cI_1 ?_
  refine g_isub C (pc := 2) dX5_odds_2 ?_
  refine g_bipush C (pc := 3) dX5_odds_3 cB_9 ?_
  refine g_Spi C (pc := 5) (As := [.int (p0 - 1), .int 9]) (kX5_isIn l D cA T (p0 - 1) 9) (v_none (modW cA h M) 10 rfl rfl) gX5_odds_X5_isIn rfl ⟨rfl, rfl⟩ ⟨Nat.le_of_ble_eq_true rfl, Nat.le_of_ble_eq_true rfl⟩ ⟨Nat.zero_le _, Nat.zero_le _⟩ rfl (Nat.le_of_ble_eq_true rfl) hdS_X5_isIn rfl dX5_odds_5 ?_
  refine g_join (α := Int32) (fun v3 => [(0, .ref (h 0)), (1, .int p0), (2, .int p1), (3, .int p2), (4, .int p3)]) (fun v3 => [.int v3]) 34 (fun v3 ev3 => ?_) (fun Jv3 => ?_)
  · refine g_istore C (pc := 34) [(5, .int v3), (0, .ref (h 0)), (1, .int p0), (2, .int p1), (3, .int p2), (4, .int p3)] dX5_odds_34 (by decide) rfl ?_
    refine g_iload C (pc := 36) dX5_odds_36 0 rfl ?_
    refine g_if_eq C (pc := 38) 48 dX5_odds_38 (by decide) (fun c4 => ?_) (fun c4 => ?_)
    · refine g_aload_n C (pc := 48) dX5_odds_48 1 rfl ?_
      refine g_iload_n C (pc := 49) dX5_odds_49 3 rfl ?_
      refine g_iload_n C (pc := 50) dX5_odds_50 4 rfl ?_
      refine g_Vei C (pc := 51) (As := [.int p1, .int p2]) (kX5_sortsOf l D cA T h M p1 p2 hz) (v_id (modW cA h) M 10 (fun _ => rfl) rfl) gX5_odds_X5_sortsOf rfl ⟨rfl, rfl⟩ ⟨Nat.le_of_ble_eq_true rfl, Nat.le_of_ble_eq_true rfl⟩ ⟨Nat.zero_le _, Nat.zero_le _⟩ rfl (Nat.le_of_ble_eq_true rfl) hdV_X5_sortsOf 0 rfl rfl rfl dX5_odds_51 (fun z5 ez5 hz_z5 => ?_)
      refine g_nmW (modW cA h) (fun M6 eM6 => ?_)
      have hz6 : (Zmod M6) := by rw [eM6]; exact hz_z5
      refine g_nmi (fun x7 ex7 => ?_)
      refine g_istore C (pc := 54) [(6, .int x7), (5, .int v3), (0, .ref (h 0)), (1, .int p0), (2, .int p1), (3, .int p2), (4, .int p3)] dX5_odds_54 (by decide) rfl ?_
      refine g_iload C (pc := 56) dX5_odds_56 0 rfl ?_
      refine g_iload_n C (pc := 58) dX5_odds_58 3 rfl ?_
      refine g_ishr C (pc := 59) dX5_odds_59 ?_
      refine g_iconst C (pc := 60) dX5_odds_60 cI_1 ?_
      refine g_iand C (pc := 61) dX5_odds_61 ?_
      refine g_if_ne C (pc := 62) 68 dX5_odds_62 (by decide) (fun c8 => ?_) (fun c8 => ?_)
      · refine g_iconst C (pc := 68) dX5_odds_68 cI_0 ?_
        refine g_istore C (pc := 69) [(7, .int 0), (6, .int x7), (5, .int v3), (0, .ref (h 0)), (1, .int p0), (2, .int p1), (3, .int p2), (4, .int p3)] dX5_odds_69 (by decide) rfl ?_
        refine g_iload C (pc := 71) dX5_odds_71 1 rfl ?_
        refine g_istore C (pc := 73) [(8, .int x7), (7, .int 0), (6, .int x7), (5, .int v3), (0, .ref (h 0)), (1, .int p0), (2, .int p1), (3, .int p2), (4, .int p3)] dX5_odds_73 (by decide) rfl ?_
        have L75 : ∀ (k : Nat) (v9 : Int32) (v10 : Int32), (v10 : Int32).toInt.toNat < k → G p l e { frames := 7, cells := 0, slots := 0, locals := 169 } s m args below meth c 0 0 D A (Qei below D cA A args s 0 0 (modW cA h) (Zmod) X) 9 X (xX5_odds_l75 k M6 p3 v9 v10) (modW cA h M6) 75 [(4, .int p3), (7, .int v9), (8, .int v10)] [] := by
          intro k
          induction k with
          | zero => intro v9 v10 hmu; exact absurd hmu (Nat.not_lt_zero _)
          | succ k ih =>
            intro v9 v10 hmu
            rw [xX5_odds_l75]
            refine g_iload C (pc := 75) dX5_odds_75 2 rfl ?_
            refine g_if_le C (pc := 77) 98 dX5_odds_77 (by decide) (fun c11 => ?_) (fun c11 => ?_)
            · refine g_iload C (pc := 98) dX5_odds_98 0 rfl ?_
              refine g_if_ne C (pc := 100) 107 dX5_odds_100 (by decide) (fun c12 => ?_) (fun c12 => ?_)
              · refine g_iload C (pc := 107) dX5_odds_107 1 rfl ?_
                exact r_ei C rfl dX5_odds_109 hz6
              · refine g_iconst C (pc := 103) dX5_odds_103 cI_1 ?_
                refine g_goto C (pc := 104) 109 dX5_odds_104 (by decide) ?_
                exact r_ei C rfl dX5_odds_109 hz6
            · refine g_iload C (pc := 80) dX5_odds_80 1 rfl ?_
              refine g_iload C (pc := 82) dX5_odds_82 2 rfl ?_
              refine g_iconst C (pc := 84) dX5_odds_84 cI_1 ?_
              refine g_iand C (pc := 85) dX5_odds_85 ?_
              refine g_iadd C (pc := 86) dX5_odds_86 ?_
              refine g_nmi (fun x13 ex13 => ?_)
              refine g_istore C (pc := 87) [(7, .int x13), (4, .int p3), (8, .int v10)] dX5_odds_87 (by decide) rfl ?_
              refine g_iload C (pc := 89) dX5_odds_89 2 rfl ?_
              refine g_iconst C (pc := 91) dX5_odds_91 cI_1 ?_
              refine g_ishr C (pc := 92) dX5_odds_92 ?_
              refine g_nmi (fun x14 ex14 => ?_)
              refine g_istore C (pc := 93) [(8, .int x14), (7, .int x13), (4, .int p3)] dX5_odds_93 (by decide) rfl ?_
              refine g_goto C (pc := 95) 75 dX5_odds_95 (by decide) ?_
              refine g_sub [2, 1, 0] rfl ?_
              exact ih x13 x14 (by rw [ex14]; exact shr_dec c11 hmu)
        refine g_sub [8, 1, 0] rfl ?_
        exact L75 _ 0 x7 (Nat.lt_succ_self _)
      · refine g_iload C (pc := 65) dX5_odds_65 6 rfl ?_
        exact r_ei C rfl dX5_odds_67 hz6
    · refine g_aload_n C (pc := 41) dX5_odds_41 1 rfl ?_
      refine g_iload C (pc := 42) dX5_odds_42 0 rfl ?_
      refine g_Vei C (pc := 44) (As := [.int v3]) (kX5_refuse l D cA T h M v3 hz (rf_vp (rf_of (by rw [ev3]; (repeat' split) <;> first | exact rf0_c (by decide) | exact rf0_within _ _ _ | exact rf0_wrongRun _ _ | exact rf0_wrongSorts _ _) c4))) (v_id (modW cA h) M 10 (fun _ => rfl) rfl) gX5_odds_X5_refuse rfl ⟨rfl, rfl⟩ ⟨Nat.le_of_ble_eq_true rfl, Nat.le_of_ble_eq_true rfl⟩ ⟨Nat.zero_le _, Nat.zero_le _⟩ rfl (Nat.le_of_ble_eq_true rfl) hdV_X5_refuse 0 rfl rfl rfl dX5_odds_44 (fun z15 ez15 hz_z15 => ?_)
      refine g_nmW (modW cA h) (fun M16 eM16 => ?_)
      have hz16 : (Zmod M16) := by rw [eM16]; exact hz_z15
      exact r_ei C rfl dX5_odds_47 hz16
  · refine g_if_ne0 C (pc := 8) 15 dX5_odds_8 (by decide) (fun c1 => ?_) (fun c1 => ?_)
    · refine g_iload C (pc := 15) dX5_odds_15 4 rfl ?_
      refine g_iconst C (pc := 17) dX5_odds_17 cI_2 ?_
      refine g_Spi C (pc := 18) (As := [.int p3, .int 2]) (kX5_isIn l D cA T p3 2) (v_none (modW cA h M) 10 rfl rfl) gX5_odds_X5_isIn rfl ⟨rfl, rfl⟩ ⟨Nat.le_of_ble_eq_true rfl, Nat.le_of_ble_eq_true rfl⟩ ⟨Nat.zero_le _, Nat.zero_le _⟩ rfl (Nat.le_of_ble_eq_true rfl) hdS_X5_isIn rfl dX5_odds_18 ?_
      refine g_if_ne0 C (pc := 21) 29 dX5_odds_21 (by decide) (fun c2 => ?_) (fun c2 => ?_)
      · refine g_iload_n C (pc := 29) dX5_odds_29 2 rfl ?_
        refine g_iload_n C (pc := 30) dX5_odds_30 3 rfl ?_
        refine g_Spi C (pc := 31) (As := [.int p1, .int p2]) (kX5_wrongSorts l D cA T p1 p2) (v_none (modW cA h M) 10 rfl rfl) gX5_odds_X5_wrongSorts rfl ⟨rfl, rfl⟩ ⟨Nat.le_of_ble_eq_true rfl, Nat.le_of_ble_eq_true rfl⟩ ⟨Nat.zero_le _, Nat.zero_le _⟩ rfl (Nat.le_of_ble_eq_true rfl) hdS_X5_wrongSorts rfl dX5_odds_31 ?_
        refine g_sub [0, 1, 2, 3, 4] rfl ?_
        exact g_lf ((if_neg c1).trans (if_neg c2)) (Jv3 _ (Eq.symm ((if_neg c1).trans (if_neg c2))))
      · refine g_bipush C (pc := 24) dX5_odds_24 cB_m2 ?_
        refine g_goto C (pc := 26) 34 dX5_odds_26 (by decide) ?_
        refine g_sub [0, 1, 2, 3, 4] rfl ?_
        exact g_lf ((if_neg c1).trans (if_pos c2)) (Jv3 _ (Eq.symm ((if_neg c1).trans (if_pos c2))))
    · refine g_iconst C (pc := 11) dX5_odds_11 cI_m1 ?_
      refine g_goto C (pc := 12) 34 dX5_odds_12 (by decide) ?_
      refine g_sub [0, 1, 2, 3, 4] rfl ?_
      exact g_lf (if_pos c1) (Jv3 _ (Eq.symm (if_pos c1)))
theorem inX5_drafts_5 : ∀ w ∈ u_ws RX5 TX5 14, w ∈ wsX5_drafts := by decide +kernel
noncomputable def xX5_drafts_l26 : Nat → St → Int32 → Int32 → Int32 → Int32 × St
  | 0, M6, _, _, _ => (0, M6)
  | k + 1, M6, p0, v4, v5 => if p0 ≤ v5 then (nm (sa M6 0 (up (M6 0) 7 (-9))) fun M8 => (((M8 4 23) - (M8 2 23)), M8)) else (nm (if ((M6 4 22) - (M6 4 22) / 10 * 10) = 0 then (nm (((v4 * 1664525) + 1013904223) : Int32) fun x15 => nm (sa M6 0 (up (M6 0) 7 (((x15 &&& 2147483647) / 256) - ((x15 &&& 2147483647) / 256) / 10 * 10))) fun M16 => (M16, x15)) else ((M6, v4)) : St × Int32) fun w9 => nm (w9.1) fun M10 => nm (xX5_tenth (M10 0) (sh 4 M10)) fun z11 => nm (put 4 1 z11 M10) fun M12 => nm (v5 + 1 : Int32) fun x13 => xX5_drafts_l26 k M12 p0 (w9.2) x13)
noncomputable def xX5_drafts (M : St) (p0 : Int32) (p1 : Int32) : Int32 × St := nm ((xX5_wrongRun M p0) : Int32) fun x1 => if x1 = 0 then (nm (xX5_begins M) fun M3 => xX5_drafts_l26 (mu 0 p0 + 1) M3 p0 p1 0) else (nm (xX5_refuse M x1) fun z17 => nm (z17.2) fun M18 => (z17.1, M18))
set_option maxHeartbeats 4000000 in
set_option maxRecDepth 100000 in
theorem kX5_drafts (l : Launch) (D : va_G) (cA : ClassId) (T : Nat × Nat × Nat) (h : Nat → Nat) (M : St) (p0 : Int32) (p1 : Int32) (hz : (Zmod M)) : ∀ sz : Nat, Met l yX5_drafts wsX5_drafts { frames := 3, cells := 0, slots := 0, locals := 71 } (va_Pc [.ref (h 0), .int p0, .int p1] (PreW D cA T (modW cA h M) sz)) (va_Qi (fun r u => (r, u) = (xX5_drafts M p0 p1) ∧ (Zmod) u) (fun u => PostW D cA (va_A (modW cA h M) sz) (modW cA h u)) (va_A (modW cA h M) sz)) 0 0 (va_A (modW cA h M) sz) := by
  refine m_ei (Wf := modW cA h) (inv := (Zmod)) (cc := cX5_drafts) (maxL := 6) (own := RX5) (by decide) rfl rfl (Nat.le_of_ble_eq_true rfl) (fun {p e s m args below meth c} A C X => ?_)
  show G p l e { frames := 3, cells := 0, slots := 0, locals := 71 } s m args below meth c 0 0 D A (Qei below D cA A args s 0 0 (modW cA h) (Zmod) X) 6 X (xX5_drafts M p0 p1) (modW cA h M) 0 [(0, .ref (h 0)), (1, .int p0), (2, .int p1)] []
  unfold xX5_drafts
  refine g_aload_n C (pc := 0) dX5_drafts_0 0 rfl ?_
  refine g_iload_n C (pc := 1) dX5_drafts_1 1 rfl ?_
  refine g_Vpi C (pc := 2) (As := [.int p0]) (kX5_wrongRun l D cA T h M p0 hz) (v_id (modW cA h) M 10 (fun _ => rfl) rfl) gX5_drafts_X5_wrongRun rfl ⟨rfl, rfl⟩ ⟨Nat.le_of_ble_eq_true rfl, Nat.le_of_ble_eq_true rfl⟩ ⟨Nat.zero_le _, Nat.zero_le _⟩ rfl (Nat.le_of_ble_eq_true rfl) hdV_X5_wrongRun 0 rfl rfl rfl dX5_drafts_2 ?_
  refine g_nmi (fun x1 ex1 => ?_)
  refine g_istore_n C (pc := 5) [(3, .int x1), (0, .ref (h 0)), (1, .int p0), (2, .int p1)] dX5_drafts_5 (by decide) rfl ?_
  refine g_iload_n C (pc := 6) dX5_drafts_6 0 rfl ?_
  refine g_if_eq C (pc := 7) 16 dX5_drafts_7 (by decide) (fun c2 => ?_) (fun c2 => ?_)
  · refine g_aload_n C (pc := 16) dX5_drafts_16 1 rfl ?_
    refine g_Vev C (pc := 17) (As := []) (kX5_begins l D cA T h M hz) (v_id (modW cA h) M 10 (fun _ => rfl) rfl) gX5_drafts_X5_begins rfl ⟨rfl, rfl⟩ ⟨Nat.le_of_ble_eq_true rfl, Nat.le_of_ble_eq_true rfl⟩ ⟨Nat.zero_le _, Nat.zero_le _⟩ rfl (Nat.le_of_ble_eq_true rfl) hdV_X5_begins 0 rfl rfl rfl dX5_drafts_17 (fun M3 eM3 hz_M3 => ?_)
    have hz3 := hz_M3
    have hm := rz_begins hz eM3
    refine g_iload_n C (pc := 20) dX5_drafts_20 3 rfl ?_
    refine g_istore C (pc := 21) [(4, .int p1), (3, .int x1), (0, .ref (h 0)), (1, .int p0), (2, .int p1)] dX5_drafts_21 (by decide) rfl ?_
    refine g_iconst C (pc := 23) dX5_drafts_23 cI_0 ?_
    refine g_istore C (pc := 24) [(5, .int 0), (4, .int p1), (3, .int x1), (0, .ref (h 0)), (1, .int p0), (2, .int p1)] dX5_drafts_24 (by decide) rfl ?_
    have L26 : ∀ (k : Nat) (M6 : St) (v4 : Int32) (v5 : Int32), (Zmod M6) → rz (M6 4) → mu v5 p0 < k → G p l e { frames := 3, cells := 0, slots := 0, locals := 71 } s m args below meth c 0 0 D A (Qei below D cA A args s 0 0 (modW cA h) (Zmod) X) 6 X (xX5_drafts_l26 k M6 p0 v4 v5) (modW cA h M6) 26 [(0, .ref (h 0)), (1, .int p0), (4, .int v4), (5, .int v5)] [] := by
      intro k
      induction k with
      | zero => intro M6 v4 v5 hz6 h4 hmu; exact absurd hmu (Nat.not_lt_zero _)
      | succ k ih =>
        intro M6 v4 v5 hz6 h4 hmu
        rw [xX5_drafts_l26]
        refine g_iload C (pc := 26) dX5_drafts_26 3 rfl ?_
        refine g_iload_n C (pc := 28) dX5_drafts_28 1 rfl ?_
        refine g_icmp_ge C (pc := 29) 85 dX5_drafts_29 (by decide) (fun c7 => ?_) (fun c7 => ?_)
        · refine g_aload_n C (pc := 85) dX5_drafts_85 0 rfl ?_
          refine g_bipush C (pc := 86) dX5_drafts_86 cB_m9 ?_
          refine g_put C (pc := 88) tyX5 tyX5_ok nmX5 inX5_drafts_5 rfl 7 (by decide) rfl (List.mem_of_getElem? (i := 5) rfl) dX5_drafts_88 rfl rfl 0 rfl (Nat.le_of_ble_eq_true rfl) (modW cA h) (sa M6 0 (up (M6 0) 7 (-9))) rfl (fun M8 eM8 => ?_)
          have hz8 : (Zmod M8) := by rw [eM8]; exact hz6
          refine g_aload_n C (pc := 91) dX5_drafts_91 0 rfl ?_
          refine g_get C (pc := 92) inX5_drafts_5 rfl 3 (by decide) (List.mem_of_getElem? (i := 1) rfl) dX5_drafts_92 0 rfl (.ref (h 4)) rfl ?_
          refine g_bipush C (pc := 95) dX5_drafts_95 cB_23 ?_
          refine g_iald C (pc := 97) dX5_drafts_97 4 rfl inb_23_151 (M8 4 23) (congrArg (M8 4) tn_23) ?_
          refine g_aload_n C (pc := 98) dX5_drafts_98 0 rfl ?_
          refine g_get C (pc := 99) inX5_drafts_5 rfl 1 (by decide) (List.mem_of_getElem? (i := 6) rfl) dX5_drafts_99 0 rfl (.ref (h 2)) rfl ?_
          refine g_bipush C (pc := 102) dX5_drafts_102 cB_23 ?_
          refine g_iald C (pc := 104) dX5_drafts_104 2 rfl inb_23_151 (M8 2 23) (congrArg (M8 2) tn_23) ?_
          refine g_isub C (pc := 105) dX5_drafts_105 ?_
          exact r_ei C rfl dX5_drafts_106 hz8
        · refine g_aload_n C (pc := 32) dX5_drafts_32 0 rfl ?_
          refine g_get C (pc := 33) inX5_drafts_5 rfl 3 (by decide) (List.mem_of_getElem? (i := 1) rfl) dX5_drafts_33 0 rfl (.ref (h 4)) rfl ?_
          refine g_bipush C (pc := 36) dX5_drafts_36 cB_22 ?_
          refine g_iald C (pc := 38) dX5_drafts_38 4 rfl inb_22_151 (M6 4 22) (congrArg (M6 4) tn_22) ?_
          refine g_bipush C (pc := 39) dX5_drafts_39 cB_10 ?_
          refine g_irem C (pc := 41) dX5_drafts_41 nz_10 ?_
          refine g_inner (σ := St × Int32) (fun w9 : St × Int32 => (modW cA h w9.1)) (fun w9 => [(0, .ref (h 0)), (1, .int p0), (4, .int (w9.2)), (5, .int v5)]) 71 (fun w9 : St × Int32 => (Zmod w9.1) ∧ rz ((w9.1) 4)) (fun w9 ew9 hw9 => ?_) (fun X9 Jw9 => ?_)
          · refine g_nmW (modW cA h) (fun M10 eM10 => ?_)
            have hz10 : (Zmod M10) := by rw [eM10]; exact hw9.1
            have h4b : rz (M10 4) := by rw [eM10]; exact hw9.2
            refine g_aload_n C (pc := 71) dX5_drafts_71 0 rfl ?_
            refine g_aload_n C (pc := 72) dX5_drafts_72 0 rfl ?_
            refine g_get C (pc := 73) inX5_drafts_5 rfl 3 (by decide) (List.mem_of_getElem? (i := 1) rfl) dX5_drafts_73 0 rfl (.ref (h 4)) rfl ?_
            refine g_Vev C (pc := 76) (As := [.ref (h 4)]) (kX5_tenth l D cA T h (M10 0) (sh2 0 1 4 h) (sh 4 M10) h4b) (v_mod_modk_0_4 cA h M10) gX5_drafts_X5_tenth rfl ⟨rfl, rfl⟩ ⟨Nat.le_of_ble_eq_true rfl, Nat.le_of_ble_eq_true rfl⟩ ⟨Nat.zero_le _, Nat.zero_le _⟩ rfl (Nat.le_of_ble_eq_true rfl) hdV_X5_tenth 0 rfl rfl rfl dX5_drafts_76 (fun z11 ez11 hz_z11 => ?_)
            refine g_nmW (modW cA h) (fun M12 eM12 => ?_)
            have hz12 : (Zmod M12) := by rw [eM12]; exact hz10
            refine g_iincN C (pc := 79) 1 (fun y => [(5, .int y), (0, .ref (h 0)), (1, .int p0), (4, .int (w9.2))]) dX5_drafts_79 3 rfl cI_1 (by decide) (fun _ => rfl) (fun x13 ex13 => ?_)
            refine g_goto C (pc := 82) 26 dX5_drafts_82 (by decide) ?_
            refine g_sub [1, 2, 3, 0] rfl ?_
            exact ih M12 (w9.2) x13 hz12 (by rw [eM12]; exact hz_z11) (by rw [ex13]; exact lp_dec c7 hmu)
          · refine g_if_ne C (pc := 42) 71 dX5_drafts_42 (by decide) (fun c14 => ?_) (fun c14 => ?_)
            · refine g_sub [0, 1, 2, 3] rfl ?_
              exact Jw9 (M6, v4) ⟨hz6, (by first | exact h4 | (rw []; exact h4))⟩
            · refine g_iload C (pc := 45) dX5_drafts_45 2 rfl ?_
              refine g_ldc C (pc := 47) (v := 1664525) dX5_drafts_47 (List.mem_of_getElem? (i := 2) rfl) ?_
              refine g_imul C (pc := 49) dX5_drafts_49 ?_
              refine g_ldc C (pc := 50) (v := 1013904223) dX5_drafts_50 (List.mem_of_getElem? (i := 3) rfl) ?_
              refine g_iadd C (pc := 52) dX5_drafts_52 ?_
              refine g_nmi (fun x15 ex15 => ?_)
              refine g_istore C (pc := 53) [(4, .int x15), (0, .ref (h 0)), (1, .int p0), (5, .int v5)] dX5_drafts_53 (by decide) rfl ?_
              refine g_aload_n C (pc := 55) dX5_drafts_55 1 rfl ?_
              refine g_iload C (pc := 56) dX5_drafts_56 0 rfl ?_
              refine g_ldc C (pc := 58) (v := 2147483647) dX5_drafts_58 (List.mem_of_getElem? (i := 4) rfl) ?_
              refine g_iand C (pc := 60) dX5_drafts_60 ?_
              refine g_sipush C (pc := 61) dX5_drafts_61 cS_256 ?_
              refine g_idiv C (pc := 64) dX5_drafts_64 nz_256 ?_
              refine g_bipush C (pc := 65) dX5_drafts_65 cB_10 ?_
              refine g_irem C (pc := 67) dX5_drafts_67 nz_10 ?_
              refine g_put C (pc := 68) tyX5 tyX5_ok nmX5 inX5_drafts_5 rfl 7 (by decide) rfl (List.mem_of_getElem? (i := 5) rfl) dX5_drafts_68 rfl rfl 0 rfl (Nat.le_of_ble_eq_true rfl) (modW cA h) (sa M6 0 (up (M6 0) 7 (((x15 &&& 2147483647) / 256) - ((x15 &&& 2147483647) / 256) / 10 * 10))) rfl (fun M16 eM16 => ?_)
              have hz16 : (Zmod M16) := by rw [eM16]; exact hz6
              refine g_sub [1, 2, 0, 3] rfl ?_
              exact Jw9 (M16, x15) ⟨hz16, (by first | exact h4 | (rw [eM16]; exact h4))⟩
    refine g_sub [3, 4, 1, 0] rfl ?_
    exact L26 _ M3 p1 0 hz3 hm (Nat.lt_succ_self _)
  · refine g_aload_n C (pc := 10) dX5_drafts_10 1 rfl ?_
    refine g_iload_n C (pc := 11) dX5_drafts_11 0 rfl ?_
    refine g_Vei C (pc := 12) (As := [.int x1]) (kX5_refuse l D cA T h M x1 hz (rf_vp (rf_of (by rw [ex1]; (repeat' split) <;> first | exact rf0_c (by decide) | exact rf0_within _ _ _ | exact rf0_wrongRun _ _ | exact rf0_wrongSorts _ _) c2))) (v_id (modW cA h) M 10 (fun _ => rfl) rfl) gX5_drafts_X5_refuse rfl ⟨rfl, rfl⟩ ⟨Nat.le_of_ble_eq_true rfl, Nat.le_of_ble_eq_true rfl⟩ ⟨Nat.zero_le _, Nat.zero_le _⟩ rfl (Nat.le_of_ble_eq_true rfl) hdV_X5_refuse 0 rfl rfl rfl dX5_drafts_12 (fun z17 ez17 hz_z17 => ?_)
    refine g_nmW (modW cA h) (fun M18 eM18 => ?_)
    have hz18 : (Zmod M18) := by rw [eM18]; exact hz_z17
    exact r_ei C rfl dX5_drafts_15 hz18
theorem inX5_image_5 : ∀ w ∈ u_ws RX5 TX5 14, w ∈ wsX5_image := by decide +kernel
noncomputable def xX5_image (M : St) : Int32 × St := nm (xX5_copies (sh2 2 1 3 M)) fun z1 => nm (put2 2 1 3 1 z1 M) fun M2 => nm (sa M2 0 (up (M2 0) 6 1)) fun M3 => ((M3 2 22), M3)
set_option maxHeartbeats 4000000 in
set_option maxRecDepth 100000 in
theorem kX5_image (l : Launch) (D : va_G) (cA : ClassId) (T : Nat × Nat × Nat) (h : Nat → Nat) (M : St) (hz : (Zmod M)) : ∀ sz : Nat, Met l yX5_image wsX5_image { frames := 1, cells := 0, slots := 0, locals := 22 } (va_Pc [.ref (h 0)] (PreW D cA T (modW cA h M) sz)) (va_Qi (fun r u => (r, u) = (xX5_image M) ∧ (Zmod) u) (fun u => PostW D cA (va_A (modW cA h M) sz) (modW cA h u)) (va_A (modW cA h M) sz)) 0 0 (va_A (modW cA h M) sz) := by
  refine m_ei (Wf := modW cA h) (inv := (Zmod)) (cc := cX5_image) (maxL := 1) (own := RX5) (by decide) rfl rfl (Nat.le_of_ble_eq_true rfl) (fun {p e s m args below meth c} A C X => ?_)
  show G p l e { frames := 1, cells := 0, slots := 0, locals := 22 } s m args below meth c 0 0 D A (Qei below D cA A args s 0 0 (modW cA h) (Zmod) X) 1 X (xX5_image M) (modW cA h M) 0 [(0, .ref (h 0))] []
  unfold xX5_image
  refine g_aload_n C (pc := 0) dX5_image_0 0 rfl ?_
  refine g_get C (pc := 1) inX5_image_5 rfl 1 (by decide) (List.mem_of_getElem? (i := 1) rfl) dX5_image_1 0 rfl (.ref (h 2)) rfl ?_
  refine g_aload_n C (pc := 4) dX5_image_4 0 rfl ?_
  refine g_get C (pc := 5) inX5_image_5 rfl 2 (by decide) (List.mem_of_getElem? (i := 2) rfl) dX5_image_5 0 rfl (.ref (h 3)) rfl ?_
  refine g_Sev C (pc := 8) (As := [.ref (h 2), .ref (h 3)]) (kX5_copies l D cA T (sh2 2 1 3 h) (sh2 2 1 3 M) trivial) (v_mod_arr2_2_3 cA h M) gX5_image_X5_copies rfl ⟨rfl, rfl⟩ ⟨Nat.le_of_ble_eq_true rfl, Nat.le_of_ble_eq_true rfl⟩ ⟨Nat.zero_le _, Nat.zero_le _⟩ rfl (Nat.le_of_ble_eq_true rfl) hdS_X5_copies rfl dX5_image_8 (fun z1 ez1 hz_z1 => ?_)
  refine g_nmW (modW cA h) (fun M2 eM2 => ?_)
  have hz2 : (Zmod M2) := (zp_23 hz ez1 eM2).1
  have hm := (zp_23 hz ez1 eM2).2
  refine g_aload_n C (pc := 11) dX5_image_11 0 rfl ?_
  refine g_iconst C (pc := 12) dX5_image_12 cI_1 ?_
  refine g_put C (pc := 13) tyX5 tyX5_ok nmX5 inX5_image_5 rfl 6 (by decide) rfl (List.mem_of_getElem? (i := 3) rfl) dX5_image_13 rfl rfl 0 rfl (Nat.le_of_ble_eq_true rfl) (modW cA h) (sa M2 0 (up (M2 0) 6 1)) rfl (fun M3 eM3 => ?_)
  have hz3 : (Zmod M3) := (im_1 hz2 hm eM3)
  refine g_aload_n C (pc := 16) dX5_image_16 0 rfl ?_
  refine g_get C (pc := 17) inX5_image_5 rfl 1 (by decide) (List.mem_of_getElem? (i := 1) rfl) dX5_image_17 0 rfl (.ref (h 2)) rfl ?_
  refine g_bipush C (pc := 20) dX5_image_20 cB_22 ?_
  refine g_iald C (pc := 22) dX5_image_22 2 rfl inb_22_151 (M3 2 22) (congrArg (M3 2) tn_22) ?_
  exact r_ei C rfl dX5_image_23 hz3
theorem inX5_on_5 : ∀ w ∈ u_ws RX5 TX5 14, w ∈ wsX5_on := by decide +kernel
noncomputable def xX5_on (M : St) : Int32 × St := if M 0 6 = 0 then (nm (xX5_refuse M (-3)) fun z4 => nm (z4.2) fun M5 => (z4.1, M5)) else (nm (xX5_copies (sh2 3 1 2 M)) fun z2 => nm (put2 3 1 2 1 z2 M) fun M3 => ((M3 2 22), M3))
set_option maxHeartbeats 4000000 in
set_option maxRecDepth 100000 in
theorem kX5_on (l : Launch) (D : va_G) (cA : ClassId) (T : Nat × Nat × Nat) (h : Nat → Nat) (M : St) (hz : (Zmod M)) : ∀ sz : Nat, Met l yX5_on wsX5_on { frames := 1, cells := 0, slots := 0, locals := 22 } (va_Pc [.ref (h 0)] (PreW D cA T (modW cA h M) sz)) (va_Qi (fun r u => (r, u) = (xX5_on M) ∧ (Zmod) u) (fun u => PostW D cA (va_A (modW cA h M) sz) (modW cA h u)) (va_A (modW cA h M) sz)) 0 0 (va_A (modW cA h M) sz) := by
  refine m_ei (Wf := modW cA h) (inv := (Zmod)) (cc := cX5_on) (maxL := 1) (own := RX5) (by decide) rfl rfl (Nat.le_of_ble_eq_true rfl) (fun {p e s m args below meth c} A C X => ?_)
  show G p l e { frames := 1, cells := 0, slots := 0, locals := 22 } s m args below meth c 0 0 D A (Qei below D cA A args s 0 0 (modW cA h) (Zmod) X) 1 X (xX5_on M) (modW cA h M) 0 [(0, .ref (h 0))] []
  unfold xX5_on
  refine g_aload_n C (pc := 0) dX5_on_0 0 rfl ?_
  refine g_get C (pc := 1) inX5_on_5 rfl 6 (by decide) (List.mem_of_getElem? (i := 1) rfl) dX5_on_1 0 rfl (.int (M 0 6)) rfl ?_
  refine g_if_ne C (pc := 4) 14 dX5_on_4 (by decide) (fun c1 => ?_) (fun c1 => ?_)
  · refine g_aload_n C (pc := 14) dX5_on_14 0 rfl ?_
    refine g_get C (pc := 15) inX5_on_5 rfl 2 (by decide) (List.mem_of_getElem? (i := 2) rfl) dX5_on_15 0 rfl (.ref (h 3)) rfl ?_
    refine g_aload_n C (pc := 18) dX5_on_18 0 rfl ?_
    refine g_get C (pc := 19) inX5_on_5 rfl 1 (by decide) (List.mem_of_getElem? (i := 3) rfl) dX5_on_19 0 rfl (.ref (h 2)) rfl ?_
    refine g_Sev C (pc := 22) (As := [.ref (h 3), .ref (h 2)]) (kX5_copies l D cA T (sh2 3 1 2 h) (sh2 3 1 2 M) trivial) (v_mod_arr2_3_2 cA h M) gX5_on_X5_copies rfl ⟨rfl, rfl⟩ ⟨Nat.le_of_ble_eq_true rfl, Nat.le_of_ble_eq_true rfl⟩ ⟨Nat.zero_le _, Nat.zero_le _⟩ rfl (Nat.le_of_ble_eq_true rfl) hdS_X5_copies rfl dX5_on_22 (fun z2 ez2 hz_z2 => ?_)
    refine g_nmW (modW cA h) (fun M3 eM3 => ?_)
    have hz3 : (Zmod M3) := (zp_32 hz c1 ez2 eM3)
    refine g_aload_n C (pc := 25) dX5_on_25 0 rfl ?_
    refine g_get C (pc := 26) inX5_on_5 rfl 1 (by decide) (List.mem_of_getElem? (i := 3) rfl) dX5_on_26 0 rfl (.ref (h 2)) rfl ?_
    refine g_bipush C (pc := 29) dX5_on_29 cB_22 ?_
    refine g_iald C (pc := 31) dX5_on_31 2 rfl inb_22_151 (M3 2 22) (congrArg (M3 2) tn_22) ?_
    exact r_ei C rfl dX5_on_32 hz3
  · refine g_aload_n C (pc := 7) dX5_on_7 0 rfl ?_
    refine g_bipush C (pc := 8) dX5_on_8 cB_m3 ?_
    refine g_Vei C (pc := 10) (As := [.int (-3)]) (kX5_refuse l D cA T h M (-3) hz rf_m3) (v_id (modW cA h) M 10 (fun _ => rfl) rfl) gX5_on_X5_refuse rfl ⟨rfl, rfl⟩ ⟨Nat.le_of_ble_eq_true rfl, Nat.le_of_ble_eq_true rfl⟩ ⟨Nat.zero_le _, Nat.zero_le _⟩ rfl (Nat.le_of_ble_eq_true rfl) hdV_X5_refuse 0 rfl rfl rfl dX5_on_10 (fun z4 ez4 hz_z4 => ?_)
    refine g_nmW (modW cA h) (fun M5 eM5 => ?_)
    have hz5 : (Zmod M5) := by rw [eM5]; exact hz_z4
    exact r_ei C rfl dX5_on_13 hz5
theorem inX5_count_5 : ∀ w ∈ u_ws RX5 TX5 14, w ∈ wsX5_count := by decide +kernel
noncomputable def xX5_count_j22 (M : St) (p0 : Int32) : Int32 × St := if p0 = 0 then (((M 2 89), M)) else (if p0 = 1 then (((M 2 150), M)) else (if p0 = 2 then ((M 0 13, M)) else (if p0 = 3 then ((M 0 10, M)) else (((-9), M)))))
noncomputable def xX5_count (M : St) (p0 : Int32) : Int32 × St := if p0 ≤ 10 then (xX5_count_j22 M p0) else (if 17 ≤ p0 then (xX5_count_j22 M p0) else (((M 1 ((p0 - 10) : Int32).toNatClampNeg), M)))
set_option maxHeartbeats 4000000 in
set_option maxRecDepth 100000 in
theorem kX5_count (l : Launch) (D : va_G) (cA : ClassId) (T : Nat × Nat × Nat) (h : Nat → Nat) (M : St) (p0 : Int32) (hz : (Zmod M)) : ∀ sz : Nat, Met l yX5_count wsX5_count { frames := 0, cells := 0, slots := 0, locals := 0 } (va_Pc [.ref (h 0), .int p0] (PreW D cA T (modW cA h M) sz)) (va_Qi (fun r u => (r, u) = (xX5_count M p0) ∧ (Zmod) u) (fun u => PostW D cA (va_A (modW cA h M) sz) (modW cA h u)) (va_A (modW cA h M) sz)) 0 0 (va_A (modW cA h M) sz) := by
  refine m_ei (Wf := modW cA h) (inv := (Zmod)) (cc := cX5_count) (maxL := 2) (own := RX5) (by decide) rfl rfl (Nat.le_of_ble_eq_true rfl) (fun {p e s m args below meth c} A C X => ?_)
  show G p l e { frames := 0, cells := 0, slots := 0, locals := 0 } s m args below meth c 0 0 D A (Qei below D cA A args s 0 0 (modW cA h) (Zmod) X) 2 X (xX5_count M p0) (modW cA h M) 0 [(0, .ref (h 0)), (1, .int p0)] []
  unfold xX5_count
  refine g_iload_n C (pc := 0) dX5_count_0 1 rfl ?_
  refine g_bipush C (pc := 1) dX5_count_1 cB_10 ?_
  have J22 : ∀ (_ : True), G p l e { frames := 0, cells := 0, slots := 0, locals := 0 } s m args below meth c 0 0 D A (Qei below D cA A args s 0 0 (modW cA h) (Zmod) X) 2 X (xX5_count_j22 M p0) (modW cA h M) 22 [(0, .ref (h 0)), (1, .int p0)] [] := by
    intro _
    unfold xX5_count_j22
    refine g_iload_n C (pc := 22) dX5_count_22 1 rfl ?_
    refine g_case (p0) 0 (fun c1 => ?_) (fun c1 => ?_)
    · refine g_tblIn C (pc := 23) 52 dX5_count_23 c1 (rfl : (0 : Int32).toInt = 0) (by decide) (by decide) rfl (by decide) ?_
      refine g_aload_n C (pc := 52) dX5_count_52 0 rfl ?_
      refine g_get C (pc := 53) inX5_count_5 rfl 1 (by decide) (List.mem_of_getElem? (i := 2) rfl) dX5_count_53 0 rfl (.ref (h 2)) rfl ?_
      refine g_bipush C (pc := 56) dX5_count_56 cB_89 ?_
      refine g_iald C (pc := 58) dX5_count_58 2 rfl inb_89_151 (M 2 89) (congrArg (M 2) tn_89) ?_
      exact r_ei C rfl dX5_count_59 hz
    · refine g_case (p0) 1 (fun c2 => ?_) (fun c2 => ?_)
      · refine g_tblIn C (pc := 23) 60 dX5_count_23 c2 (rfl : (1 : Int32).toInt = 1) (by decide) (by decide) rfl (by decide) ?_
        refine g_aload_n C (pc := 60) dX5_count_60 0 rfl ?_
        refine g_get C (pc := 61) inX5_count_5 rfl 1 (by decide) (List.mem_of_getElem? (i := 2) rfl) dX5_count_61 0 rfl (.ref (h 2)) rfl ?_
        refine g_sipush C (pc := 64) dX5_count_64 cS_150 ?_
        refine g_iald C (pc := 67) dX5_count_67 2 rfl inb_150_151 (M 2 150) (congrArg (M 2) tn_150) ?_
        exact r_ei C rfl dX5_count_68 hz
      · refine g_case (p0) 2 (fun c3 => ?_) (fun c3 => ?_)
        · refine g_tblIn C (pc := 23) 69 dX5_count_23 c3 (rfl : (2 : Int32).toInt = 2) (by decide) (by decide) rfl (by decide) ?_
          refine g_aload_n C (pc := 69) dX5_count_69 0 rfl ?_
          refine g_get C (pc := 70) inX5_count_5 rfl 13 (by decide) (List.mem_of_getElem? (i := 3) rfl) dX5_count_70 0 rfl (.int (M 0 13)) rfl ?_
          exact r_ei C rfl dX5_count_73 hz
        · refine g_case (p0) 3 (fun c4 => ?_) (fun c4 => ?_)
          · refine g_tblIn C (pc := 23) 74 dX5_count_23 c4 (rfl : (3 : Int32).toInt = 3) (by decide) (by decide) rfl (by decide) ?_
            refine g_aload_n C (pc := 74) dX5_count_74 0 rfl ?_
            refine g_get C (pc := 75) inX5_count_5 rfl 10 (by decide) (List.mem_of_getElem? (i := 4) rfl) dX5_count_75 0 rfl (.int (M 0 10)) rfl ?_
            exact r_ei C rfl dX5_count_78 hz
          · refine g_tblOut C (pc := 23) 79 dX5_count_23 (by have q0 : ¬ (p0 : Int32).toInt = 0 := lv_neT c1 rfl; have q1 : ¬ (p0 : Int32).toInt = 1 := lv_neT c2 rfl; have q2 : ¬ (p0 : Int32).toInt = 2 := lv_neT c3 rfl; have q3 : ¬ (p0 : Int32).toInt = 3 := lv_neT c4 rfl; omega) (by decide) ?_
            refine g_bipush C (pc := 79) dX5_count_79 cB_m9 ?_
            exact r_ei C rfl dX5_count_81 hz
  refine g_icmp_le C (pc := 3) 22 dX5_count_3 (by decide) (fun c5 => ?_) (fun c5 => ?_)
  · refine g_sub [0, 1] rfl ?_
    exact J22 trivial
  · refine g_iload_n C (pc := 6) dX5_count_6 1 rfl ?_
    refine g_bipush C (pc := 7) dX5_count_7 cB_17 ?_
    refine g_icmp_ge C (pc := 9) 22 dX5_count_9 (by decide) (fun c6 => ?_) (fun c6 => ?_)
    · refine g_sub [0, 1] rfl ?_
      exact J22 trivial
    · refine g_aload_n C (pc := 12) dX5_count_12 0 rfl ?_
      refine g_get C (pc := 13) inX5_count_5 rfl 0 (by decide) (List.mem_of_getElem? (i := 1) rfl) dX5_count_13 0 rfl (.ref (h 1)) rfl ?_
      refine g_iload_n C (pc := 16) dX5_count_16 1 rfl ?_
      refine g_bipush C (pc := 17) dX5_count_17 cB_10 ?_
      refine g_isub C (pc := 19) dX5_count_19 ?_
      refine g_iald C (pc := 20) dX5_count_20 1 rfl (cnt_in c5 c6) (M 1 ((p0 - 10) : Int32).toNatClampNeg) rfl ?_
      exact r_ei C rfl dX5_count_21 hz
