theorem inX4_refuse_4 : ∀ w ∈ u_ws RX4 TX4 8, w ∈ wsX4_refuse := by decide +kernel
noncomputable def xX4_refuse (M : St) (p0 : Int32) : Int32 × St := nm (xX1_put 7 (sh 54 M) (-p0) ((xX1_at 7 (sh 54 M) (-p0)) + 1)) fun z1 => nm (put 54 2 z1 M) fun M2 => (p0, M2)
set_option maxHeartbeats 4000000 in
set_option maxRecDepth 100000 in
theorem kX4_refuse (l : Launch) (D : va_G) (cA : ClassId) (T : Nat × Nat × Nat) (h : Nat → Nat) (M : St) (p0 : Int32) (hz : (Zmain M)) : ∀ sz : Nat, Met l yX4_refuse wsX4_refuse { frames := 1, cells := 0, slots := 0, locals := 22 } (va_Pc [.ref (h 0), .int p0] (PreW D cA T (mainW cA h M) sz)) (va_Qi (fun r u => (r, u) = (xX4_refuse M p0) ∧ (Zmain) u) (fun u => PostW D cA (va_A (mainW cA h M) sz) (mainW cA h u)) (va_A (mainW cA h M) sz)) 0 0 (va_A (mainW cA h M) sz) := by
  refine m_ei (Wf := mainW cA h) (inv := (Zmain)) (cc := cX4_refuse) (maxL := 2) (own := RX4) (by decide) rfl rfl (Nat.le_of_ble_eq_true rfl) (fun {p e s m args below meth c} A C X => ?_)
  show G p l e { frames := 1, cells := 0, slots := 0, locals := 22 } s m args below meth c 0 0 D A (Qei below D cA A args s 0 0 (mainW cA h) (Zmain) X) 2 X (xX4_refuse M p0) (mainW cA h M) 0 [(0, .ref (h 0)), (1, .int p0)] []
  unfold xX4_refuse
  refine g_aload_n C (pc := 0) dX4_refuse_0 0 rfl ?_
  refine g_get C (pc := 1) inX4_refuse_4 rfl 6 (by decide) (List.mem_of_getElem? (i := 1) rfl) dX4_refuse_1 0 rfl (.ref (h 54)) rfl ?_
  refine g_iload_n C (pc := 4) dX4_refuse_4 1 rfl ?_
  refine g_ineg C (pc := 5) dX4_refuse_5 ?_
  refine g_aload_n C (pc := 6) dX4_refuse_6 0 rfl ?_
  refine g_get C (pc := 7) inX4_refuse_4 rfl 6 (by decide) (List.mem_of_getElem? (i := 1) rfl) dX4_refuse_7 0 rfl (.ref (h 54)) rfl ?_
  refine g_iload_n C (pc := 10) dX4_refuse_10 1 rfl ?_
  refine g_ineg C (pc := 11) dX4_refuse_11 ?_
  refine g_Vpi C (pc := 12) (As := [.int (-p0)]) (kX1_at l D cA T 7 (sh 54 h) (sh 54 M) (-p0) hz.2.2.2.2.2.2.2.2.2.2.2.2.2.2.2.2.2.2.2.2.2.2) (v_main_cells_54 cA h M) gX4_refuse_X1_at rfl ⟨rfl, rfl⟩ ⟨Nat.le_of_ble_eq_true rfl, Nat.le_of_ble_eq_true rfl⟩ ⟨Nat.zero_le _, Nat.zero_le _⟩ rfl (Nat.le_of_ble_eq_true rfl) hdV_X1_at 0 rfl rfl rfl dX4_refuse_12 ?_
  refine g_iconst C (pc := 15) dX4_refuse_15 cI_1 ?_
  refine g_iadd C (pc := 16) dX4_refuse_16 ?_
  refine g_Vev C (pc := 17) (As := [.int (-p0), .int ((xX1_at 7 (sh 54 M) (-p0)) + 1)]) (kX1_put l D cA T 7 (sh 54 h) (sh 54 M) (-p0) ((xX1_at 7 (sh 54 M) (-p0)) + 1) hz.2.2.2.2.2.2.2.2.2.2.2.2.2.2.2.2.2.2.2.2.2.2) (v_main_cells_54 cA h M) gX4_refuse_X1_put rfl ⟨rfl, rfl⟩ ⟨Nat.le_of_ble_eq_true rfl, Nat.le_of_ble_eq_true rfl⟩ ⟨Nat.zero_le _, Nat.zero_le _⟩ rfl (Nat.le_of_ble_eq_true rfl) hdV_X1_put 0 rfl rfl rfl dX4_refuse_17 (fun z1 ez1 hz_z1 => ?_)
  refine g_nmW (mainW cA h) (fun M2 eM2 => ?_)
  have hz2 : (Zmain M2) := by rw [eM2]; exact ⟨hz.1, hz.2.1, hz.2.2.1, hz.2.2.2.1, hz.2.2.2.2.1, hz.2.2.2.2.2.1, hz.2.2.2.2.2.2.1, hz.2.2.2.2.2.2.2.1, hz.2.2.2.2.2.2.2.2.1, hz.2.2.2.2.2.2.2.2.2.1, hz.2.2.2.2.2.2.2.2.2.2.1, hz.2.2.2.2.2.2.2.2.2.2.2.1, hz.2.2.2.2.2.2.2.2.2.2.2.2.1, hz.2.2.2.2.2.2.2.2.2.2.2.2.2.1, hz.2.2.2.2.2.2.2.2.2.2.2.2.2.2.1, hz.2.2.2.2.2.2.2.2.2.2.2.2.2.2.2.1, hz.2.2.2.2.2.2.2.2.2.2.2.2.2.2.2.2.1, hz.2.2.2.2.2.2.2.2.2.2.2.2.2.2.2.2.2.1, hz.2.2.2.2.2.2.2.2.2.2.2.2.2.2.2.2.2.2.1, hz.2.2.2.2.2.2.2.2.2.2.2.2.2.2.2.2.2.2.2.1, hz.2.2.2.2.2.2.2.2.2.2.2.2.2.2.2.2.2.2.2.2.1, hz.2.2.2.2.2.2.2.2.2.2.2.2.2.2.2.2.2.2.2.2.2.1, hz_z1⟩
  refine g_iload_n C (pc := 20) dX4_refuse_20 1 rfl ?_
  exact r_ei C rfl dX4_refuse_21 hz2

noncomputable def xX4_outside (M : St) (p0 : Int32) (p1 : Int32) : Int32 × St := if p0 = 0 then (if p1 = 0 then ((0, M)) else (nm (xX4_refuse M (-6)) fun z3 => nm (z3.2) fun M4 => (z3.1, M4))) else (nm (xX4_refuse M (-4)) fun z5 => nm (z5.2) fun M6 => (z5.1, M6))
set_option maxHeartbeats 4000000 in
set_option maxRecDepth 100000 in
theorem kX4_outside (l : Launch) (D : va_G) (cA : ClassId) (T : Nat × Nat × Nat) (h : Nat → Nat) (M : St) (p0 : Int32) (p1 : Int32) (hz : (Zmain M)) : ∀ sz : Nat, Met l yX4_outside wsX4_outside { frames := 2, cells := 0, slots := 0, locals := 43 } (va_Pc [.ref (h 0), .int p0, .int p1] (PreW D cA T (mainW cA h M) sz)) (va_Qi (fun r u => (r, u) = (xX4_outside M p0 p1) ∧ (Zmain) u) (fun u => PostW D cA (va_A (mainW cA h M) sz) (mainW cA h u)) (va_A (mainW cA h M) sz)) 0 0 (va_A (mainW cA h M) sz) := by
  refine m_ei (Wf := mainW cA h) (inv := (Zmain)) (cc := cX4_outside) (maxL := 3) (own := RX4) (by decide) rfl rfl (Nat.le_of_ble_eq_true rfl) (fun {p e s m args below meth c} A C X => ?_)
  show G p l e { frames := 2, cells := 0, slots := 0, locals := 43 } s m args below meth c 0 0 D A (Qei below D cA A args s 0 0 (mainW cA h) (Zmain) X) 3 X (xX4_outside M p0 p1) (mainW cA h M) 0 [(0, .ref (h 0)), (1, .int p0), (2, .int p1)] []
  unfold xX4_outside
  refine g_iload_n C (pc := 0) dX4_outside_0 1 rfl ?_
  refine g_if_eq C (pc := 1) 11 dX4_outside_1 (by decide) (fun c1 => ?_) (fun c1 => ?_)
  · refine g_iload_n C (pc := 11) dX4_outside_11 2 rfl ?_
    refine g_if_eq C (pc := 12) 24 dX4_outside_12 (by decide) (fun c2 => ?_) (fun c2 => ?_)
    · refine g_iconst C (pc := 24) dX4_outside_24 cI_0 ?_
      exact r_ei C rfl dX4_outside_25 hz
    · refine g_aload_n C (pc := 15) dX4_outside_15 0 rfl ?_
      refine g_bipush C (pc := 16) dX4_outside_16 cB_m6 ?_
      refine g_Vei C (pc := 18) (As := [.int (-6)]) (kX4_refuse l D cA T h M (-6) hz) (v_id (mainW cA h) M 56 (fun _ => rfl) rfl) gX4_outside_X4_refuse rfl ⟨rfl, rfl⟩ ⟨Nat.le_of_ble_eq_true rfl, Nat.le_of_ble_eq_true rfl⟩ ⟨Nat.zero_le _, Nat.zero_le _⟩ rfl (Nat.le_of_ble_eq_true rfl) hdV_X4_refuse 0 rfl rfl rfl dX4_outside_18 (fun z3 ez3 hz_z3 => ?_)
      refine g_nmW (mainW cA h) (fun M4 eM4 => ?_)
      have hz4 : (Zmain M4) := by rw [eM4]; exact hz_z3
      refine g_goto C (pc := 21) 25 dX4_outside_21 (by decide) ?_
      exact r_ei C rfl dX4_outside_25 hz4
  · refine g_aload_n C (pc := 4) dX4_outside_4 0 rfl ?_
    refine g_bipush C (pc := 5) dX4_outside_5 cB_m4 ?_
    refine g_Vei C (pc := 7) (As := [.int (-4)]) (kX4_refuse l D cA T h M (-4) hz) (v_id (mainW cA h) M 56 (fun _ => rfl) rfl) gX4_outside_X4_refuse rfl ⟨rfl, rfl⟩ ⟨Nat.le_of_ble_eq_true rfl, Nat.le_of_ble_eq_true rfl⟩ ⟨Nat.zero_le _, Nat.zero_le _⟩ rfl (Nat.le_of_ble_eq_true rfl) hdV_X4_refuse 0 rfl rfl rfl dX4_outside_7 (fun z5 ez5 hz_z5 => ?_)
    refine g_nmW (mainW cA h) (fun M6 eM6 => ?_)
    have hz6 : (Zmain M6) := by rw [eM6]; exact hz_z5
    exact r_ei C rfl dX4_outside_10 hz6
theorem inX4_feed_3 : ∀ w ∈ u_ws RX3 TX3 6, w ∈ wsX4_feed := by decide +kernel
theorem inX4_feed_4 : ∀ w ∈ u_ws RX4 TX4 8, w ∈ wsX4_feed := by decide +kernel
noncomputable def xX4_feed_l55 : Nat → St → Int32 → Int64 → Int32 → Int32 × St
  | 0, M11, _, _, _ => (0, M11)
  | k + 1, M11, p0, p1, v10 => if p0 ≤ v10 then (((xX1_size 64 (sh 50 M11)), M11)) else (nm (xX1_add 64 (sh 50 M11) ((((((p1).toUInt64 >>> (((8 * v10) : Int32).toInt64.toUInt64 &&& Int64.toUInt64 63)).toInt64) &&& 255) : Int64).toInt32)) fun z13 => nm (put 50 2 z13 M11) fun M14 => nm (v10 + 1 : Int32) fun x15 => xX4_feed_l55 k M14 p0 p1 x15)
noncomputable def xX4_feed (M : St) (p0 : Int32) (p1 : Int64) : Int32 × St := nm (if 1 ≤ p0 then (0) else (1) : Int32) fun v2 => nm (if 8 < p0 then (1) else (if ((xX1_size 64 (sh 50 M)) + p0) ≤ 64 then (0) else (1)) : Int32) fun v5 => nm (xX4_outside M v2 v5) fun z6 => nm (z6.2) fun M7 => nm (z6.1 : Int32) fun x8 => if x8 = 0 then (xX4_feed_l55 (mu 0 p0 + 1) M7 p0 p1 0) else ((x8, M7))
set_option maxHeartbeats 4000000 in
set_option maxRecDepth 100000 in
theorem kX4_feed (l : Launch) (D : va_G) (cA : ClassId) (T : Nat × Nat × Nat) (h : Nat → Nat) (M : St) (p0 : Int32) (p1 : Int64) (hz : (Zmain M)) : ∀ sz : Nat, Met l yX4_feed wsX4_feed { frames := 3, cells := 0, slots := 0, locals := 65 } (va_Pc [.ref (h 0), .int p0, .long p1] (PreW D cA T (mainW cA h M) sz)) (va_Qi (fun r u => (r, u) = (xX4_feed M p0 p1) ∧ (Zmain) u) (fun u => PostW D cA (va_A (mainW cA h M) sz) (mainW cA h u)) (va_A (mainW cA h M) sz)) 0 0 (va_A (mainW cA h M) sz) := by
  refine m_ei (Wf := mainW cA h) (inv := (Zmain)) (cc := cX4_feed) (maxL := 6) (own := RX4) (by decide) rfl rfl (Nat.le_of_ble_eq_true rfl) (fun {p e s m args below meth c} A C X => ?_)
  show G p l e { frames := 3, cells := 0, slots := 0, locals := 65 } s m args below meth c 0 0 D A (Qei below D cA A args s 0 0 (mainW cA h) (Zmain) X) 6 X (xX4_feed M p0 p1) (mainW cA h M) 0 [(0, .ref (h 0)), (1, .int p0), (2, .long p1)] []
  unfold xX4_feed
  refine g_aload_n C (pc := 0) dX4_feed_0 0 rfl ?_
  refine g_iload_n C (pc := 1) dX4_feed_1 1 rfl ?_
  refine g_iconst C (pc := 2) dX4_feed_2 cI_1 ?_
  refine g_join (α := Int32) (fun v2 => [(0, .ref (h 0)), (1, .int p0), (2, .long p1)]) (fun v2 => [.int v2, .ref (h 0)]) 11 (fun v2 ev2 => ?_) (fun Jv2 => ?_)
  · refine g_iload_n C (pc := 11) dX4_feed_11 1 rfl ?_
    refine g_bipush C (pc := 12) dX4_feed_12 cB_8 ?_
    refine g_join (α := Int32) (fun v5 => [(0, .ref (h 0)), (1, .int p0), (2, .long p1)]) (fun v5 => [.int v5, .int v2, .ref (h 0)]) 39 (fun v5 ev5 => ?_) (fun Jv5 => ?_)
    · refine g_Vei C (pc := 39) (As := [.int v2, .int v5]) (kX4_outside l D cA T h M v2 v5 hz) (v_id (mainW cA h) M 56 (fun _ => rfl) rfl) gX4_feed_X4_outside rfl ⟨rfl, rfl⟩ ⟨Nat.le_of_ble_eq_true rfl, Nat.le_of_ble_eq_true rfl⟩ ⟨Nat.zero_le _, Nat.zero_le _⟩ rfl (Nat.le_of_ble_eq_true rfl) hdV_X4_outside 0 rfl rfl rfl dX4_feed_39 (fun z6 ez6 hz_z6 => ?_)
      refine g_nmW (mainW cA h) (fun M7 eM7 => ?_)
      have hz7 : (Zmain M7) := by rw [eM7]; exact hz_z6
      refine g_nmi (fun x8 ex8 => ?_)
      refine g_istore C (pc := 42) [(4, .int x8), (0, .ref (h 0)), (1, .int p0), (2, .long p1)] dX4_feed_42 (by decide) rfl ?_
      refine g_iload C (pc := 44) dX4_feed_44 0 rfl ?_
      refine g_if_eq C (pc := 46) 52 dX4_feed_46 (by decide) (fun c9 => ?_) (fun c9 => ?_)
      · refine g_iconst C (pc := 52) dX4_feed_52 cI_0 ?_
        refine g_istore C (pc := 53) [(5, .int 0), (4, .int x8), (0, .ref (h 0)), (1, .int p0), (2, .long p1)] dX4_feed_53 (by decide) rfl ?_
        have L55 : ∀ (k : Nat) (M11 : St) (v10 : Int32), (Zmain M11) → mu v10 p0 < k → G p l e { frames := 3, cells := 0, slots := 0, locals := 65 } s m args below meth c 0 0 D A (Qei below D cA A args s 0 0 (mainW cA h) (Zmain) X) 6 X (xX4_feed_l55 k M11 p0 p1 v10) (mainW cA h M11) 55 [(0, .ref (h 0)), (1, .int p0), (2, .long p1), (5, .int v10)] [] := by
          intro k
          induction k with
          | zero => intro M11 v10 hz11 hmu; exact absurd hmu (Nat.not_lt_zero _)
          | succ k ih =>
            intro M11 v10 hz11 hmu
            rw [xX4_feed_l55]
            refine g_iload C (pc := 55) dX4_feed_55 3 rfl ?_
            refine g_iload_n C (pc := 57) dX4_feed_57 1 rfl ?_
            refine g_icmp_ge C (pc := 58) 89 dX4_feed_58 (by decide) (fun c12 => ?_) (fun c12 => ?_)
            · refine g_aload_n C (pc := 89) dX4_feed_89 0 rfl ?_
              refine g_get C (pc := 90) inX4_feed_4 rfl 4 (by decide) (List.mem_of_getElem? (i := 1) rfl) dX4_feed_90 0 rfl (.ref (h 49)) rfl ?_
              refine g_get C (pc := 93) inX4_feed_3 rfl 0 (by decide) (List.mem_of_getElem? (i := 2) rfl) dX4_feed_93 49 rfl (.ref (h 50)) rfl ?_
              refine g_Vpi C (pc := 96) (As := []) (kX1_size l D cA T 64 (sh 50 h) (sh 50 M11) hz11.2.2.2.2.2.2.2.2.2.2.2.2.2.2.2.2.2.2.2.2.1) (v_main_cells_50 cA h M11) gX4_feed_X1_size rfl ⟨rfl, rfl⟩ ⟨Nat.le_of_ble_eq_true rfl, Nat.le_of_ble_eq_true rfl⟩ ⟨Nat.zero_le _, Nat.zero_le _⟩ rfl (Nat.le_of_ble_eq_true rfl) hdV_X1_size 0 rfl rfl rfl dX4_feed_96 ?_
              exact r_ei C rfl dX4_feed_99 hz11
            · refine g_aload_n C (pc := 61) dX4_feed_61 0 rfl ?_
              refine g_get C (pc := 62) inX4_feed_4 rfl 4 (by decide) (List.mem_of_getElem? (i := 1) rfl) dX4_feed_62 0 rfl (.ref (h 49)) rfl ?_
              refine g_get C (pc := 65) inX4_feed_3 rfl 0 (by decide) (List.mem_of_getElem? (i := 2) rfl) dX4_feed_65 49 rfl (.ref (h 50)) rfl ?_
              refine g_lload_n C (pc := 68) dX4_feed_68 2 rfl ?_
              refine g_bipush C (pc := 69) dX4_feed_69 cB_8 ?_
              refine g_iload C (pc := 71) dX4_feed_71 3 rfl ?_
              refine g_imul C (pc := 73) dX4_feed_73 ?_
              refine g_lushr C (pc := 74) dX4_feed_74 rfl ?_
              refine g_ldc2 C (pc := 75) (v := 255) dX4_feed_75 (List.mem_of_getElem? (i := 3) rfl) ?_
              refine g_land C (pc := 78) dX4_feed_78 ?_
              refine g_l2i C (pc := 79) dX4_feed_79 rfl ?_
              refine g_Vev C (pc := 80) (As := [.int ((((((p1).toUInt64 >>> (((8 * v10) : Int32).toInt64.toUInt64 &&& Int64.toUInt64 63)).toInt64) &&& 255) : Int64).toInt32)]) (kX1_add l D cA T 64 (sh 50 h) (sh 50 M11) ((((((p1).toUInt64 >>> (((8 * v10) : Int32).toInt64.toUInt64 &&& Int64.toUInt64 63)).toInt64) &&& 255) : Int64).toInt32) hz11.2.2.2.2.2.2.2.2.2.2.2.2.2.2.2.2.2.2.2.2.1) (v_main_cells_50 cA h M11) gX4_feed_X1_add rfl ⟨rfl, rfl⟩ ⟨Nat.le_of_ble_eq_true rfl, Nat.le_of_ble_eq_true rfl⟩ ⟨Nat.zero_le _, Nat.zero_le _⟩ rfl (Nat.le_of_ble_eq_true rfl) hdV_X1_add 0 rfl rfl rfl dX4_feed_80 (fun z13 ez13 hz_z13 => ?_)
              refine g_nmW (mainW cA h) (fun M14 eM14 => ?_)
              have hz14 : (Zmain M14) := by rw [eM14]; exact ⟨hz11.1, hz11.2.1, hz11.2.2.1, hz11.2.2.2.1, hz11.2.2.2.2.1, hz11.2.2.2.2.2.1, hz11.2.2.2.2.2.2.1, hz11.2.2.2.2.2.2.2.1, hz11.2.2.2.2.2.2.2.2.1, hz11.2.2.2.2.2.2.2.2.2.1, hz11.2.2.2.2.2.2.2.2.2.2.1, hz11.2.2.2.2.2.2.2.2.2.2.2.1, hz11.2.2.2.2.2.2.2.2.2.2.2.2.1, hz11.2.2.2.2.2.2.2.2.2.2.2.2.2.1, hz11.2.2.2.2.2.2.2.2.2.2.2.2.2.2.1, hz11.2.2.2.2.2.2.2.2.2.2.2.2.2.2.2.1, hz11.2.2.2.2.2.2.2.2.2.2.2.2.2.2.2.2.1, hz11.2.2.2.2.2.2.2.2.2.2.2.2.2.2.2.2.2.1, hz11.2.2.2.2.2.2.2.2.2.2.2.2.2.2.2.2.2.2.1, hz11.2.2.2.2.2.2.2.2.2.2.2.2.2.2.2.2.2.2.2.1, hz_z13, hz11.2.2.2.2.2.2.2.2.2.2.2.2.2.2.2.2.2.2.2.2.2.1, hz11.2.2.2.2.2.2.2.2.2.2.2.2.2.2.2.2.2.2.2.2.2.2⟩
              refine g_iincN C (pc := 83) 1 (fun y => [(5, .int y), (0, .ref (h 0)), (1, .int p0), (2, .long p1)]) dX4_feed_83 3 rfl cI_1 (by decide) (fun _ => rfl) (fun x15 ex15 => ?_)
              refine g_goto C (pc := 86) 55 dX4_feed_86 (by decide) ?_
              refine g_sub [1, 2, 3, 0] rfl ?_
              exact ih M14 x15 hz14 (by rw [ex15]; exact lp_dec c12 hmu)
        refine g_sub [2, 3, 4, 0] rfl ?_
        exact L55 _ M7 0 hz7 (Nat.lt_succ_self _)
      · refine g_iload C (pc := 49) dX4_feed_49 0 rfl ?_
        exact r_ei C rfl dX4_feed_51 hz7
    · refine g_icmp_gt0 C (pc := 14) 34 dX4_feed_14 (by decide) (fun c3 => ?_) (fun c3 => ?_)
      · refine g_iconst C (pc := 34) dX4_feed_34 cI_1 ?_
        refine g_goto C (pc := 35) 39 dX4_feed_35 (by decide) ?_
        refine g_sub [0, 1, 2] rfl ?_
        exact g_lf (if_pos c3) (Jv5 _ (Eq.symm (if_pos c3)))
      · refine g_aload_n C (pc := 17) dX4_feed_17 0 rfl ?_
        refine g_get C (pc := 18) inX4_feed_4 rfl 4 (by decide) (List.mem_of_getElem? (i := 1) rfl) dX4_feed_18 0 rfl (.ref (h 49)) rfl ?_
        refine g_get C (pc := 21) inX4_feed_3 rfl 0 (by decide) (List.mem_of_getElem? (i := 2) rfl) dX4_feed_21 49 rfl (.ref (h 50)) rfl ?_
        refine g_Vpi C (pc := 24) (As := []) (kX1_size l D cA T 64 (sh 50 h) (sh 50 M) hz.2.2.2.2.2.2.2.2.2.2.2.2.2.2.2.2.2.2.2.2.1) (v_main_cells_50 cA h M) gX4_feed_X1_size rfl ⟨rfl, rfl⟩ ⟨Nat.le_of_ble_eq_true rfl, Nat.le_of_ble_eq_true rfl⟩ ⟨Nat.zero_le _, Nat.zero_le _⟩ rfl (Nat.le_of_ble_eq_true rfl) hdV_X1_size 0 rfl rfl rfl dX4_feed_24 ?_
        refine g_iload_n C (pc := 27) dX4_feed_27 1 rfl ?_
        refine g_iadd C (pc := 28) dX4_feed_28 ?_
        refine g_bipush C (pc := 29) dX4_feed_29 cB_64 ?_
        refine g_icmp_le0 C (pc := 31) 38 dX4_feed_31 (by decide) (fun c4 => ?_) (fun c4 => ?_)
        · refine g_iconst C (pc := 38) dX4_feed_38 cI_0 ?_
          refine g_sub [0, 1, 2] rfl ?_
          exact g_lf ((if_neg c3).trans (if_pos c4)) (Jv5 _ (Eq.symm ((if_neg c3).trans (if_pos c4))))
        · refine g_iconst C (pc := 34) dX4_feed_34 cI_1 ?_
          refine g_goto C (pc := 35) 39 dX4_feed_35 (by decide) ?_
          refine g_sub [0, 1, 2] rfl ?_
          exact g_lf ((if_neg c3).trans (if_neg c4)) (Jv5 _ (Eq.symm ((if_neg c3).trans (if_neg c4))))
  · refine g_icmp_ge0 C (pc := 3) 10 dX4_feed_3 (by decide) (fun c1 => ?_) (fun c1 => ?_)
    · refine g_iconst C (pc := 10) dX4_feed_10 cI_0 ?_
      refine g_sub [0, 1, 2] rfl ?_
      exact g_lf (if_pos c1) (Jv2 _ (Eq.symm (if_pos c1)))
    · refine g_iconst C (pc := 6) dX4_feed_6 cI_1 ?_
      refine g_goto C (pc := 7) 11 dX4_feed_7 (by decide) ?_
      refine g_sub [0, 1, 2] rfl ?_
      exact g_lf (if_neg c1) (Jv2 _ (Eq.symm (if_neg c1)))
theorem inX4_book_0 : ∀ w ∈ u_ws RX0 TX0 18, w ∈ wsX4_book := by decide +kernel
theorem inX4_book_3 : ∀ w ∈ u_ws RX3 TX3 6, w ∈ wsX4_book := by decide +kernel
theorem inX4_book_4 : ∀ w ∈ u_ws RX4 TX4 8, w ∈ wsX4_book := by decide +kernel
noncomputable def xX4_book (M : St) : Int32 × St := nm (xX3_readInto (sh2 49 3 4 M)) fun z1 => nm (put2 49 3 4 7 z1.2 M) fun M2 => nm (z1.1 : Int32) fun x3 => nm (xX1_clear 64 (sh 50 M2)) fun z4 => nm (put 50 2 z4 M2) fun M5 => (x3, M5)
set_option maxHeartbeats 4000000 in
set_option maxRecDepth 100000 in
theorem kX4_book (l : Launch) (D : va_G) (cA : ClassId) (T : Nat × Nat × Nat) (h : Nat → Nat) (M : St) (hz : (Zmain M)) : ∀ sz : Nat, Met l yX4_book wsX4_book { frames := 5, cells := 0, slots := 0, locals := 110 } (va_Pc [.ref (h 0)] (PreW D cA T (mainW cA h M) sz)) (va_Qi (fun r u => (r, u) = (xX4_book M) ∧ (Zmain) u) (fun u => PostW D cA (va_A (mainW cA h M) sz) (mainW cA h u)) (va_A (mainW cA h M) sz)) 0 0 (va_A (mainW cA h M) sz) := by
  refine m_ei (Wf := mainW cA h) (inv := (Zmain)) (cc := cX4_book) (maxL := 2) (own := RX4) (by decide) rfl rfl (Nat.le_of_ble_eq_true rfl) (fun {p e s m args below meth c} A C X => ?_)
  show G p l e { frames := 5, cells := 0, slots := 0, locals := 110 } s m args below meth c 0 0 D A (Qei below D cA A args s 0 0 (mainW cA h) (Zmain) X) 2 X (xX4_book M) (mainW cA h M) 0 [(0, .ref (h 0))] []
  unfold xX4_book
  refine g_aload_n C (pc := 0) dX4_book_0 0 rfl ?_
  refine g_get C (pc := 1) inX4_book_4 rfl 4 (by decide) (List.mem_of_getElem? (i := 1) rfl) dX4_book_1 0 rfl (.ref (h 49)) rfl ?_
  refine g_aload_n C (pc := 4) dX4_book_4 0 rfl ?_
  refine g_get C (pc := 5) inX4_book_4 rfl 0 (by decide) (List.mem_of_getElem? (i := 2) rfl) dX4_book_5 0 rfl (.ref (h 1)) rfl ?_
  refine g_get C (pc := 8) inX4_book_0 rfl 1 (by decide) (List.mem_of_getElem? (i := 3) rfl) dX4_book_8 1 rfl (.ref (h 4)) rfl ?_
  refine g_Vei C (pc := 11) (As := [.ref (h 4)]) (kX3_readInto l D cA T (sh2 49 3 4 h) (sh2 49 3 4 M) ⟨hz.2.2.2.2.2.2.2.2.2.2.2.2.2.2.2.2.2.2.2.2.1, hz.2.1, hz.2.2.1, hz.2.2.2.1⟩) (v_main_tapeh_49_4 cA h M) gX4_book_X3_readInto rfl ⟨rfl, rfl⟩ ⟨Nat.le_of_ble_eq_true rfl, Nat.le_of_ble_eq_true rfl⟩ ⟨Nat.zero_le _, Nat.zero_le _⟩ rfl (Nat.le_of_ble_eq_true rfl) hdV_X3_readInto 0 rfl rfl rfl dX4_book_11 (fun z1 ez1 hz_z1 => ?_)
  refine g_nmW (mainW cA h) (fun M2 eM2 => ?_)
  have hz2 : (Zmain M2) := by rw [eM2]; exact ⟨hz.1, hz_z1.2.1, hz_z1.2.2.1, hz_z1.2.2.2, hz.2.2.2.2.1, hz.2.2.2.2.2.1, hz.2.2.2.2.2.2.1, hz.2.2.2.2.2.2.2.1, hz.2.2.2.2.2.2.2.2.1, hz.2.2.2.2.2.2.2.2.2.1, hz.2.2.2.2.2.2.2.2.2.2.1, hz.2.2.2.2.2.2.2.2.2.2.2.1, hz.2.2.2.2.2.2.2.2.2.2.2.2.1, hz.2.2.2.2.2.2.2.2.2.2.2.2.2.1, hz.2.2.2.2.2.2.2.2.2.2.2.2.2.2.1, hz.2.2.2.2.2.2.2.2.2.2.2.2.2.2.2.1, hz.2.2.2.2.2.2.2.2.2.2.2.2.2.2.2.2.1, hz.2.2.2.2.2.2.2.2.2.2.2.2.2.2.2.2.2.1, hz.2.2.2.2.2.2.2.2.2.2.2.2.2.2.2.2.2.2.1, hz.2.2.2.2.2.2.2.2.2.2.2.2.2.2.2.2.2.2.2.1, hz_z1.1, hz.2.2.2.2.2.2.2.2.2.2.2.2.2.2.2.2.2.2.2.2.2.1, hz.2.2.2.2.2.2.2.2.2.2.2.2.2.2.2.2.2.2.2.2.2.2⟩
  refine g_nmi (fun x3 ex3 => ?_)
  refine g_istore_n C (pc := 14) [(1, .int x3), (0, .ref (h 0))] dX4_book_14 (by decide) rfl ?_
  refine g_aload_n C (pc := 15) dX4_book_15 1 rfl ?_
  refine g_get C (pc := 16) inX4_book_4 rfl 4 (by decide) (List.mem_of_getElem? (i := 1) rfl) dX4_book_16 0 rfl (.ref (h 49)) rfl ?_
  refine g_get C (pc := 19) inX4_book_3 rfl 0 (by decide) (List.mem_of_getElem? (i := 4) rfl) dX4_book_19 49 rfl (.ref (h 50)) rfl ?_
  refine g_Vev C (pc := 22) (As := []) (kX1_clear l D cA T 64 (sh 50 h) (sh 50 M2) hz2.2.2.2.2.2.2.2.2.2.2.2.2.2.2.2.2.2.2.2.2.1) (v_main_cells_50 cA h M2) gX4_book_X1_clear rfl ⟨rfl, rfl⟩ ⟨Nat.le_of_ble_eq_true rfl, Nat.le_of_ble_eq_true rfl⟩ ⟨Nat.zero_le _, Nat.zero_le _⟩ rfl (Nat.le_of_ble_eq_true rfl) hdV_X1_clear 0 rfl rfl rfl dX4_book_22 (fun z4 ez4 hz_z4 => ?_)
  refine g_nmW (mainW cA h) (fun M5 eM5 => ?_)
  have hz5 : (Zmain M5) := by rw [eM5]; exact ⟨hz2.1, hz2.2.1, hz2.2.2.1, hz2.2.2.2.1, hz2.2.2.2.2.1, hz2.2.2.2.2.2.1, hz2.2.2.2.2.2.2.1, hz2.2.2.2.2.2.2.2.1, hz2.2.2.2.2.2.2.2.2.1, hz2.2.2.2.2.2.2.2.2.2.1, hz2.2.2.2.2.2.2.2.2.2.2.1, hz2.2.2.2.2.2.2.2.2.2.2.2.1, hz2.2.2.2.2.2.2.2.2.2.2.2.2.1, hz2.2.2.2.2.2.2.2.2.2.2.2.2.2.1, hz2.2.2.2.2.2.2.2.2.2.2.2.2.2.2.1, hz2.2.2.2.2.2.2.2.2.2.2.2.2.2.2.2.1, hz2.2.2.2.2.2.2.2.2.2.2.2.2.2.2.2.2.1, hz2.2.2.2.2.2.2.2.2.2.2.2.2.2.2.2.2.2.1, hz2.2.2.2.2.2.2.2.2.2.2.2.2.2.2.2.2.2.2.1, hz2.2.2.2.2.2.2.2.2.2.2.2.2.2.2.2.2.2.2.2.1, hz_z4, hz2.2.2.2.2.2.2.2.2.2.2.2.2.2.2.2.2.2.2.2.2.2.1, hz2.2.2.2.2.2.2.2.2.2.2.2.2.2.2.2.2.2.2.2.2.2.2⟩
  refine g_iload_n C (pc := 25) dX4_book_25 0 rfl ?_
  exact r_ei C rfl dX4_book_26 hz5
theorem inX4_set_0 : ∀ w ∈ u_ws RX0 TX0 18, w ∈ wsX4_set := by decide +kernel
theorem inX4_set_4 : ∀ w ∈ u_ws RX4 TX4 8, w ∈ wsX4_set := by decide +kernel
noncomputable def xX4_set_j10 (M1 : St) : Int32 × St := nm (xX4_refuse M1 (-2)) fun z2 => nm (z2.2) fun M3 => (z2.1, M3)
noncomputable def xX4_set (M : St) (p0 : Int32) (p1 : Int32) : Int32 × St := if p0 < 0 then (xX4_set_j10 M ) else (if p0 < 15 then (nm (if (xX4_numberIn tLeast p0) ≤ p1 then (0) else (1) : Int32) fun v7 => nm (if p1 ≤ (xX4_numberIn tGreat p0) then (0) else (1) : Int32) fun v9 => nm (xX4_outside M v7 v9) fun z10 => nm (z10.2) fun M11 => nm (z10.1 : Int32) fun x12 => if x12 = 0 then (nm ((xX1_at 15 (sh 2 M11) p0) : Int32) fun x14 => nm (xX1_put 15 (sh 2 M11) p0 p1) fun z15 => nm (put 2 2 z15 M11) fun M16 => (x14, M16)) else ((x12, M11))) else (xX4_set_j10 M ))
set_option maxHeartbeats 4000000 in
set_option maxRecDepth 100000 in
theorem kX4_set (l : Launch) (D : va_G) (cA : ClassId) (T : Nat × Nat × Nat) (h : Nat → Nat) (M : St) (p0 : Int32) (p1 : Int32) (hz : (Zmain M)) : ∀ sz : Nat, Met l yX4_set wsX4_set { frames := 3, cells := 0, slots := 0, locals := 65 } (va_Pc [.ref (h 0), .int p0, .int p1] (PreW D cA T (mainW cA h M) sz)) (va_Qi (fun r u => (r, u) = (xX4_set M p0 p1) ∧ (Zmain) u) (fun u => PostW D cA (va_A (mainW cA h M) sz) (mainW cA h u)) (va_A (mainW cA h M) sz)) 0 0 (va_A (mainW cA h M) sz) := by
  refine m_ei (Wf := mainW cA h) (inv := (Zmain)) (cc := cX4_set) (maxL := 5) (own := RX4) (by decide) rfl rfl (Nat.le_of_ble_eq_true rfl) (fun {p e s m args below meth c} A C X => ?_)
  show G p l e { frames := 3, cells := 0, slots := 0, locals := 65 } s m args below meth c 0 0 D A (Qei below D cA A args s 0 0 (mainW cA h) (Zmain) X) 5 X (xX4_set M p0 p1) (mainW cA h M) 0 [(0, .ref (h 0)), (1, .int p0), (2, .int p1)] []
  unfold xX4_set
  refine g_iload_n C (pc := 0) dX4_set_0 1 rfl ?_
  have J10 : ∀ (M1 : St), (Zmain M1) → G p l e { frames := 3, cells := 0, slots := 0, locals := 65 } s m args below meth c 0 0 D A (Qei below D cA A args s 0 0 (mainW cA h) (Zmain) X) 5 X (xX4_set_j10 M1 ) (mainW cA h M1) 10 [(0, .ref (h 0))] [] := by
    intro M1 hz1
    unfold xX4_set_j10
    refine g_aload_n C (pc := 10) dX4_set_10 0 rfl ?_
    refine g_bipush C (pc := 11) dX4_set_11 cB_m2 ?_
    refine g_Vei C (pc := 13) (As := [.int (-2)]) (kX4_refuse l D cA T h M1 (-2) hz1) (v_id (mainW cA h) M1 56 (fun _ => rfl) rfl) gX4_set_X4_refuse rfl ⟨rfl, rfl⟩ ⟨Nat.le_of_ble_eq_true rfl, Nat.le_of_ble_eq_true rfl⟩ ⟨Nat.zero_le _, Nat.zero_le _⟩ rfl (Nat.le_of_ble_eq_true rfl) hdV_X4_refuse 0 rfl rfl rfl dX4_set_13 (fun z2 ez2 hz_z2 => ?_)
    refine g_nmW (mainW cA h) (fun M3 eM3 => ?_)
    have hz3 : (Zmain M3) := by rw [eM3]; exact hz_z2
    exact r_ei C rfl dX4_set_16 hz3
  refine g_if_lt C (pc := 1) 10 dX4_set_1 (by decide) (fun c4 => ?_) (fun c4 => ?_)
  · refine g_sub [0] rfl ?_
    exact J10 M hz
  · refine g_iload_n C (pc := 4) dX4_set_4 1 rfl ?_
    refine g_bipush C (pc := 5) dX4_set_5 cB_15 ?_
    refine g_icmp_lt C (pc := 7) 17 dX4_set_7 (by decide) (fun c5 => ?_) (fun c5 => ?_)
    · refine g_aload_n C (pc := 17) dX4_set_17 0 rfl ?_
      refine g_iload_n C (pc := 18) dX4_set_18 2 rfl ?_
      refine g_gets C (pc := 19) (n := "LEAST") C.2.2.2.2.2.2.2.2.2.2.1.1 (List.mem_of_getElem? (i := 1) rfl) dX4_set_19 ?_
      refine g_iload_n C (pc := 22) dX4_set_22 1 rfl ?_
      refine g_Spi C (pc := 23) (As := [.ref (T.2.1), .int p0]) (kX4_numberIn_LEAST l D cA T p0) (v_none (mainW cA h M) 56 rfl rfl) gX4_set_X4_numberIn rfl ⟨rfl, rfl⟩ ⟨Nat.le_of_ble_eq_true rfl, Nat.le_of_ble_eq_true rfl⟩ ⟨Nat.zero_le _, Nat.zero_le _⟩ rfl (Nat.le_of_ble_eq_true rfl) hdS_X4_numberIn rfl dX4_set_23 ?_
      refine g_join (α := Int32) (fun v7 => [(0, .ref (h 0)), (1, .int p0), (2, .int p1)]) (fun v7 => [.int v7, .ref (h 0)]) 34 (fun v7 ev7 => ?_) (fun Jv7 => ?_)
      · refine g_iload_n C (pc := 34) dX4_set_34 2 rfl ?_
        refine g_gets C (pc := 35) (n := "GREATEST") C.2.2.2.2.2.2.2.2.2.2.2.1.1 (List.mem_of_getElem? (i := 2) rfl) dX4_set_35 ?_
        refine g_iload_n C (pc := 38) dX4_set_38 1 rfl ?_
        refine g_Spi C (pc := 39) (As := [.ref (T.2.2), .int p0]) (kX4_numberIn_GREATEST l D cA T p0) (v_none (mainW cA h M) 56 rfl rfl) gX4_set_X4_numberIn rfl ⟨rfl, rfl⟩ ⟨Nat.le_of_ble_eq_true rfl, Nat.le_of_ble_eq_true rfl⟩ ⟨Nat.zero_le _, Nat.zero_le _⟩ rfl (Nat.le_of_ble_eq_true rfl) hdS_X4_numberIn rfl dX4_set_39 ?_
        refine g_join (α := Int32) (fun v9 => [(0, .ref (h 0)), (1, .int p0), (2, .int p1)]) (fun v9 => [.int v9, .int v7, .ref (h 0)]) 50 (fun v9 ev9 => ?_) (fun Jv9 => ?_)
        · refine g_Vei C (pc := 50) (As := [.int v7, .int v9]) (kX4_outside l D cA T h M v7 v9 hz) (v_id (mainW cA h) M 56 (fun _ => rfl) rfl) gX4_set_X4_outside rfl ⟨rfl, rfl⟩ ⟨Nat.le_of_ble_eq_true rfl, Nat.le_of_ble_eq_true rfl⟩ ⟨Nat.zero_le _, Nat.zero_le _⟩ rfl (Nat.le_of_ble_eq_true rfl) hdV_X4_outside 0 rfl rfl rfl dX4_set_50 (fun z10 ez10 hz_z10 => ?_)
          refine g_nmW (mainW cA h) (fun M11 eM11 => ?_)
          have hz11 : (Zmain M11) := by rw [eM11]; exact hz_z10
          refine g_nmi (fun x12 ex12 => ?_)
          refine g_istore_n C (pc := 53) [(3, .int x12), (0, .ref (h 0)), (1, .int p0), (2, .int p1)] dX4_set_53 (by decide) rfl ?_
          refine g_iload_n C (pc := 54) dX4_set_54 0 rfl ?_
          refine g_if_eq C (pc := 55) 60 dX4_set_55 (by decide) (fun c13 => ?_) (fun c13 => ?_)
          · refine g_aload_n C (pc := 60) dX4_set_60 1 rfl ?_
            refine g_get C (pc := 61) inX4_set_4 rfl 0 (by decide) (List.mem_of_getElem? (i := 3) rfl) dX4_set_61 0 rfl (.ref (h 1)) rfl ?_
            refine g_get C (pc := 64) inX4_set_0 rfl 0 (by decide) (List.mem_of_getElem? (i := 4) rfl) dX4_set_64 1 rfl (.ref (h 2)) rfl ?_
            refine g_iload_n C (pc := 67) dX4_set_67 2 rfl ?_
            refine g_Vpi C (pc := 68) (As := [.int p0]) (kX1_at l D cA T 15 (sh 2 h) (sh 2 M11) p0 hz11.1) (v_main_cells_2 cA h M11) gX4_set_X1_at rfl ⟨rfl, rfl⟩ ⟨Nat.le_of_ble_eq_true rfl, Nat.le_of_ble_eq_true rfl⟩ ⟨Nat.zero_le _, Nat.zero_le _⟩ rfl (Nat.le_of_ble_eq_true rfl) hdV_X1_at 0 rfl rfl rfl dX4_set_68 ?_
            refine g_nmi (fun x14 ex14 => ?_)
            refine g_istore C (pc := 71) [(4, .int x14), (3, .int x12), (0, .ref (h 0)), (1, .int p0), (2, .int p1)] dX4_set_71 (by decide) rfl ?_
            refine g_aload_n C (pc := 73) dX4_set_73 2 rfl ?_
            refine g_get C (pc := 74) inX4_set_4 rfl 0 (by decide) (List.mem_of_getElem? (i := 3) rfl) dX4_set_74 0 rfl (.ref (h 1)) rfl ?_
            refine g_get C (pc := 77) inX4_set_0 rfl 0 (by decide) (List.mem_of_getElem? (i := 4) rfl) dX4_set_77 1 rfl (.ref (h 2)) rfl ?_
            refine g_iload_n C (pc := 80) dX4_set_80 3 rfl ?_
            refine g_iload_n C (pc := 81) dX4_set_81 4 rfl ?_
            refine g_Vev C (pc := 82) (As := [.int p0, .int p1]) (kX1_put l D cA T 15 (sh 2 h) (sh 2 M11) p0 p1 hz11.1) (v_main_cells_2 cA h M11) gX4_set_X1_put rfl ⟨rfl, rfl⟩ ⟨Nat.le_of_ble_eq_true rfl, Nat.le_of_ble_eq_true rfl⟩ ⟨Nat.zero_le _, Nat.zero_le _⟩ rfl (Nat.le_of_ble_eq_true rfl) hdV_X1_put 0 rfl rfl rfl dX4_set_82 (fun z15 ez15 hz_z15 => ?_)
            refine g_nmW (mainW cA h) (fun M16 eM16 => ?_)
            have hz16 : (Zmain M16) := by rw [eM16]; exact ⟨hz_z15, hz11.2.1, hz11.2.2.1, hz11.2.2.2.1, hz11.2.2.2.2.1, hz11.2.2.2.2.2.1, hz11.2.2.2.2.2.2.1, hz11.2.2.2.2.2.2.2.1, hz11.2.2.2.2.2.2.2.2.1, hz11.2.2.2.2.2.2.2.2.2.1, hz11.2.2.2.2.2.2.2.2.2.2.1, hz11.2.2.2.2.2.2.2.2.2.2.2.1, hz11.2.2.2.2.2.2.2.2.2.2.2.2.1, hz11.2.2.2.2.2.2.2.2.2.2.2.2.2.1, hz11.2.2.2.2.2.2.2.2.2.2.2.2.2.2.1, hz11.2.2.2.2.2.2.2.2.2.2.2.2.2.2.2.1, hz11.2.2.2.2.2.2.2.2.2.2.2.2.2.2.2.2.1, hz11.2.2.2.2.2.2.2.2.2.2.2.2.2.2.2.2.2.1, hz11.2.2.2.2.2.2.2.2.2.2.2.2.2.2.2.2.2.2.1, hz11.2.2.2.2.2.2.2.2.2.2.2.2.2.2.2.2.2.2.2.1, hz11.2.2.2.2.2.2.2.2.2.2.2.2.2.2.2.2.2.2.2.2.1, hz11.2.2.2.2.2.2.2.2.2.2.2.2.2.2.2.2.2.2.2.2.2.1, hz11.2.2.2.2.2.2.2.2.2.2.2.2.2.2.2.2.2.2.2.2.2.2⟩
            refine g_iload C (pc := 85) dX4_set_85 0 rfl ?_
            exact r_ei C rfl dX4_set_87 hz16
          · refine g_iload_n C (pc := 58) dX4_set_58 0 rfl ?_
            exact r_ei C rfl dX4_set_59 hz11
        · refine g_icmp_le0 C (pc := 42) 49 dX4_set_42 (by decide) (fun c8 => ?_) (fun c8 => ?_)
          · refine g_iconst C (pc := 49) dX4_set_49 cI_0 ?_
            refine g_sub [0, 1, 2] rfl ?_
            exact g_lf (if_pos c8) (Jv9 _ (Eq.symm (if_pos c8)))
          · refine g_iconst C (pc := 45) dX4_set_45 cI_1 ?_
            refine g_goto C (pc := 46) 50 dX4_set_46 (by decide) ?_
            refine g_sub [0, 1, 2] rfl ?_
            exact g_lf (if_neg c8) (Jv9 _ (Eq.symm (if_neg c8)))
      · refine g_icmp_ge0 C (pc := 26) 33 dX4_set_26 (by decide) (fun c6 => ?_) (fun c6 => ?_)
        · refine g_iconst C (pc := 33) dX4_set_33 cI_0 ?_
          refine g_sub [0, 1, 2] rfl ?_
          exact g_lf (if_pos c6) (Jv7 _ (Eq.symm (if_pos c6)))
        · refine g_iconst C (pc := 29) dX4_set_29 cI_1 ?_
          refine g_goto C (pc := 30) 34 dX4_set_30 (by decide) ?_
          refine g_sub [0, 1, 2] rfl ?_
          exact g_lf (if_neg c6) (Jv7 _ (Eq.symm (if_neg c6)))
    · refine g_sub [0] rfl ?_
      exact J10 M hz
theorem inX4_glass_0 : ∀ w ∈ u_ws RX0 TX0 18, w ∈ wsX4_glass := by decide +kernel
theorem inX4_glass_4 : ∀ w ∈ u_ws RX4 TX4 8, w ∈ wsX4_glass := by decide +kernel
noncomputable def xX4_glass (M : St) (p0 : Int32) : Int32 × St := nm (if 0 ≤ p0 then (0) else (1) : Int32) fun v2 => nm (if p0 ≤ 9999 then (0) else (1) : Int32) fun v4 => nm (xX4_outside M v2 v4) fun z5 => nm (z5.2) fun M6 => nm (z5.1 : Int32) fun x7 => if x7 = 0 then (nm (M6 1 3 : Int32) fun x9 => nm (sa M6 1 (up (M6 1) 3 p0)) fun M10 => (x9, M10)) else ((x7, M6))
set_option maxHeartbeats 4000000 in
set_option maxRecDepth 100000 in
theorem kX4_glass (l : Launch) (D : va_G) (cA : ClassId) (T : Nat × Nat × Nat) (h : Nat → Nat) (M : St) (p0 : Int32) (hz : (Zmain M)) : ∀ sz : Nat, Met l yX4_glass wsX4_glass { frames := 3, cells := 0, slots := 0, locals := 65 } (va_Pc [.ref (h 0), .int p0] (PreW D cA T (mainW cA h M) sz)) (va_Qi (fun r u => (r, u) = (xX4_glass M p0) ∧ (Zmain) u) (fun u => PostW D cA (va_A (mainW cA h M) sz) (mainW cA h u)) (va_A (mainW cA h M) sz)) 0 0 (va_A (mainW cA h M) sz) := by
  refine m_ei (Wf := mainW cA h) (inv := (Zmain)) (cc := cX4_glass) (maxL := 4) (own := RX4) (by decide) rfl rfl (Nat.le_of_ble_eq_true rfl) (fun {p e s m args below meth c} A C X => ?_)
  show G p l e { frames := 3, cells := 0, slots := 0, locals := 65 } s m args below meth c 0 0 D A (Qei below D cA A args s 0 0 (mainW cA h) (Zmain) X) 4 X (xX4_glass M p0) (mainW cA h M) 0 [(0, .ref (h 0)), (1, .int p0)] []
  unfold xX4_glass
  refine g_aload_n C (pc := 0) dX4_glass_0 0 rfl ?_
  refine g_iload_n C (pc := 1) dX4_glass_1 1 rfl ?_
  refine g_join (α := Int32) (fun v2 => [(0, .ref (h 0)), (1, .int p0)]) (fun v2 => [.int v2, .ref (h 0)]) 10 (fun v2 ev2 => ?_) (fun Jv2 => ?_)
  · refine g_iload_n C (pc := 10) dX4_glass_10 1 rfl ?_
    refine g_sipush C (pc := 11) dX4_glass_11 cS_9999 ?_
    refine g_join (α := Int32) (fun v4 => [(0, .ref (h 0)), (1, .int p0)]) (fun v4 => [.int v4, .int v2, .ref (h 0)]) 22 (fun v4 ev4 => ?_) (fun Jv4 => ?_)
    · refine g_Vei C (pc := 22) (As := [.int v2, .int v4]) (kX4_outside l D cA T h M v2 v4 hz) (v_id (mainW cA h) M 56 (fun _ => rfl) rfl) gX4_glass_X4_outside rfl ⟨rfl, rfl⟩ ⟨Nat.le_of_ble_eq_true rfl, Nat.le_of_ble_eq_true rfl⟩ ⟨Nat.zero_le _, Nat.zero_le _⟩ rfl (Nat.le_of_ble_eq_true rfl) hdV_X4_outside 0 rfl rfl rfl dX4_glass_22 (fun z5 ez5 hz_z5 => ?_)
      refine g_nmW (mainW cA h) (fun M6 eM6 => ?_)
      have hz6 : (Zmain M6) := by rw [eM6]; exact hz_z5
      refine g_nmi (fun x7 ex7 => ?_)
      refine g_istore_n C (pc := 25) [(2, .int x7), (0, .ref (h 0)), (1, .int p0)] dX4_glass_25 (by decide) rfl ?_
      refine g_iload_n C (pc := 26) dX4_glass_26 0 rfl ?_
      refine g_if_eq C (pc := 27) 32 dX4_glass_27 (by decide) (fun c8 => ?_) (fun c8 => ?_)
      · refine g_aload_n C (pc := 32) dX4_glass_32 1 rfl ?_
        refine g_get C (pc := 33) inX4_glass_4 rfl 0 (by decide) (List.mem_of_getElem? (i := 1) rfl) dX4_glass_33 0 rfl (.ref (h 1)) rfl ?_
        refine g_get C (pc := 36) inX4_glass_0 rfl 3 (by decide) (List.mem_of_getElem? (i := 2) rfl) dX4_glass_36 1 rfl (.int (M6 1 3)) rfl ?_
        refine g_nmi (fun x9 ex9 => ?_)
        refine g_istore_n C (pc := 39) [(3, .int x9), (2, .int x7), (0, .ref (h 0)), (1, .int p0)] dX4_glass_39 (by decide) rfl ?_
        refine g_aload_n C (pc := 40) dX4_glass_40 2 rfl ?_
        refine g_get C (pc := 41) inX4_glass_4 rfl 0 (by decide) (List.mem_of_getElem? (i := 1) rfl) dX4_glass_41 0 rfl (.ref (h 1)) rfl ?_
        refine g_iload_n C (pc := 44) dX4_glass_44 3 rfl ?_
        refine g_put C (pc := 45) tyX0 tyX0_ok nmX0 inX4_glass_0 rfl 3 (by decide) rfl (List.mem_of_getElem? (i := 2) rfl) dX4_glass_45 rfl rfl 1 rfl (Nat.le_of_ble_eq_true rfl) (mainW cA h) (sa M6 1 (up (M6 1) 3 p0)) rfl (fun M10 eM10 => ?_)
        have hz10 : (Zmain M10) := by rw [eM10]; exact hz6
        refine g_iload_n C (pc := 48) dX4_glass_48 0 rfl ?_
        exact r_ei C rfl dX4_glass_49 hz10
      · refine g_iload_n C (pc := 30) dX4_glass_30 0 rfl ?_
        exact r_ei C rfl dX4_glass_31 hz6
    · refine g_icmp_le0 C (pc := 14) 21 dX4_glass_14 (by decide) (fun c3 => ?_) (fun c3 => ?_)
      · refine g_iconst C (pc := 21) dX4_glass_21 cI_0 ?_
        refine g_sub [0, 1] rfl ?_
        exact g_lf (if_pos c3) (Jv4 _ (Eq.symm (if_pos c3)))
      · refine g_iconst C (pc := 17) dX4_glass_17 cI_1 ?_
        refine g_goto C (pc := 18) 22 dX4_glass_18 (by decide) ?_
        refine g_sub [0, 1] rfl ?_
        exact g_lf (if_neg c3) (Jv4 _ (Eq.symm (if_neg c3)))
  · refine g_if_ge0 C (pc := 2) 9 dX4_glass_2 (by decide) (fun c1 => ?_) (fun c1 => ?_)
    · refine g_iconst C (pc := 9) dX4_glass_9 cI_0 ?_
      refine g_sub [0, 1] rfl ?_
      exact g_lf (if_pos c1) (Jv2 _ (Eq.symm (if_pos c1)))
    · refine g_iconst C (pc := 5) dX4_glass_5 cI_1 ?_
      refine g_goto C (pc := 6) 10 dX4_glass_6 (by decide) ?_
      refine g_sub [0, 1] rfl ?_
      exact g_lf (if_neg c1) (Jv2 _ (Eq.symm (if_neg c1)))
theorem inX4_wet_0 : ∀ w ∈ u_ws RX0 TX0 18, w ∈ wsX4_wet := by decide +kernel
theorem inX4_wet_4 : ∀ w ∈ u_ws RX4 TX4 8, w ∈ wsX4_wet := by decide +kernel
noncomputable def xX4_wet (M : St) (p0 : Int32) : Int32 × St := nm (if 0 ≤ p0 then (0) else (1) : Int32) fun v2 => nm (if p0 ≤ 9900 then (0) else (1) : Int32) fun v4 => nm (xX4_outside M v2 v4) fun z5 => nm (z5.2) fun M6 => nm (z5.1 : Int32) fun x7 => if x7 = 0 then (nm (M6 1 6 : Int32) fun x9 => nm (sa M6 1 (up (M6 1) 6 (if (xX0_mostWet (sh 1 M6)) < p0 then (xX0_mostWet (sh 1 M6)) else p0))) fun M10 => (x9, M10)) else ((x7, M6))
set_option maxHeartbeats 4000000 in
set_option maxRecDepth 100000 in
theorem kX4_wet (l : Launch) (D : va_G) (cA : ClassId) (T : Nat × Nat × Nat) (h : Nat → Nat) (M : St) (p0 : Int32) (hz : (Zmain M)) : ∀ sz : Nat, Met l yX4_wet wsX4_wet { frames := 3, cells := 0, slots := 0, locals := 65 } (va_Pc [.ref (h 0), .int p0] (PreW D cA T (mainW cA h M) sz)) (va_Qi (fun r u => (r, u) = (xX4_wet M p0) ∧ (Zmain) u) (fun u => PostW D cA (va_A (mainW cA h M) sz) (mainW cA h u)) (va_A (mainW cA h M) sz)) 0 0 (va_A (mainW cA h M) sz) := by
  refine m_ei (Wf := mainW cA h) (inv := (Zmain)) (cc := cX4_wet) (maxL := 4) (own := RX4) (by decide) rfl rfl (Nat.le_of_ble_eq_true rfl) (fun {p e s m args below meth c} A C X => ?_)
  show G p l e { frames := 3, cells := 0, slots := 0, locals := 65 } s m args below meth c 0 0 D A (Qei below D cA A args s 0 0 (mainW cA h) (Zmain) X) 4 X (xX4_wet M p0) (mainW cA h M) 0 [(0, .ref (h 0)), (1, .int p0)] []
  unfold xX4_wet
  refine g_aload_n C (pc := 0) dX4_wet_0 0 rfl ?_
  refine g_iload_n C (pc := 1) dX4_wet_1 1 rfl ?_
  refine g_join (α := Int32) (fun v2 => [(0, .ref (h 0)), (1, .int p0)]) (fun v2 => [.int v2, .ref (h 0)]) 10 (fun v2 ev2 => ?_) (fun Jv2 => ?_)
  · refine g_iload_n C (pc := 10) dX4_wet_10 1 rfl ?_
    refine g_sipush C (pc := 11) dX4_wet_11 cS_9900 ?_
    refine g_join (α := Int32) (fun v4 => [(0, .ref (h 0)), (1, .int p0)]) (fun v4 => [.int v4, .int v2, .ref (h 0)]) 22 (fun v4 ev4 => ?_) (fun Jv4 => ?_)
    · refine g_Vei C (pc := 22) (As := [.int v2, .int v4]) (kX4_outside l D cA T h M v2 v4 hz) (v_id (mainW cA h) M 56 (fun _ => rfl) rfl) gX4_wet_X4_outside rfl ⟨rfl, rfl⟩ ⟨Nat.le_of_ble_eq_true rfl, Nat.le_of_ble_eq_true rfl⟩ ⟨Nat.zero_le _, Nat.zero_le _⟩ rfl (Nat.le_of_ble_eq_true rfl) hdV_X4_outside 0 rfl rfl rfl dX4_wet_22 (fun z5 ez5 hz_z5 => ?_)
      refine g_nmW (mainW cA h) (fun M6 eM6 => ?_)
      have hz6 : (Zmain M6) := by rw [eM6]; exact hz_z5
      refine g_nmi (fun x7 ex7 => ?_)
      refine g_istore_n C (pc := 25) [(2, .int x7), (0, .ref (h 0)), (1, .int p0)] dX4_wet_25 (by decide) rfl ?_
      refine g_iload_n C (pc := 26) dX4_wet_26 0 rfl ?_
      refine g_if_eq C (pc := 27) 32 dX4_wet_27 (by decide) (fun c8 => ?_) (fun c8 => ?_)
      · refine g_aload_n C (pc := 32) dX4_wet_32 1 rfl ?_
        refine g_get C (pc := 33) inX4_wet_4 rfl 0 (by decide) (List.mem_of_getElem? (i := 1) rfl) dX4_wet_33 0 rfl (.ref (h 1)) rfl ?_
        refine g_get C (pc := 36) inX4_wet_0 rfl 6 (by decide) (List.mem_of_getElem? (i := 2) rfl) dX4_wet_36 1 rfl (.int (M6 1 6)) rfl ?_
        refine g_nmi (fun x9 ex9 => ?_)
        refine g_istore_n C (pc := 39) [(3, .int x9), (2, .int x7), (0, .ref (h 0)), (1, .int p0)] dX4_wet_39 (by decide) rfl ?_
        refine g_aload_n C (pc := 40) dX4_wet_40 2 rfl ?_
        refine g_get C (pc := 41) inX4_wet_4 rfl 0 (by decide) (List.mem_of_getElem? (i := 1) rfl) dX4_wet_41 0 rfl (.ref (h 1)) rfl ?_
        refine g_iload_n C (pc := 44) dX4_wet_44 3 rfl ?_
        refine g_aload_n C (pc := 45) dX4_wet_45 2 rfl ?_
        refine g_get C (pc := 46) inX4_wet_4 rfl 0 (by decide) (List.mem_of_getElem? (i := 1) rfl) dX4_wet_46 0 rfl (.ref (h 1)) rfl ?_
        refine g_Vpi C (pc := 49) (As := []) (kX0_mostWet l D cA T (sh 1 h) (sh 1 M6) ⟨hz6.1, hz6.2.1, hz6.2.2.1, hz6.2.2.2.1, hz6.2.2.2.2.1⟩) (v_main_bird_1 cA h M6) gX4_wet_X0_mostWet rfl ⟨rfl, rfl⟩ ⟨Nat.le_of_ble_eq_true rfl, Nat.le_of_ble_eq_true rfl⟩ ⟨Nat.zero_le _, Nat.zero_le _⟩ rfl (Nat.le_of_ble_eq_true rfl) hdV_X0_mostWet 0 rfl rfl rfl dX4_wet_49 ?_
        refine g_min C (pc := 52) (List.mem_of_getElem? (i := 3) rfl) (List.mem_of_getElem? (i := 4) rfl) (List.mem_of_getElem? (i := 5) rfl) (List.mem_of_getElem? (i := 6) rfl) ⟨Nat.le_of_ble_eq_true rfl, Nat.le_of_ble_eq_true rfl, Nat.zero_le _, Nat.zero_le _⟩ dX4_wet_52 ?_
        refine g_put C (pc := 55) tyX0 tyX0_ok nmX0 inX4_wet_0 rfl 6 (by decide) rfl (List.mem_of_getElem? (i := 2) rfl) dX4_wet_55 rfl rfl 1 rfl (Nat.le_of_ble_eq_true rfl) (mainW cA h) (sa M6 1 (up (M6 1) 6 (if (xX0_mostWet (sh 1 M6)) < p0 then (xX0_mostWet (sh 1 M6)) else p0))) rfl (fun M10 eM10 => ?_)
        have hz10 : (Zmain M10) := by rw [eM10]; exact hz6
        refine g_iload_n C (pc := 58) dX4_wet_58 0 rfl ?_
        exact r_ei C rfl dX4_wet_59 hz10
      · refine g_iload_n C (pc := 30) dX4_wet_30 0 rfl ?_
        exact r_ei C rfl dX4_wet_31 hz6
    · refine g_icmp_le0 C (pc := 14) 21 dX4_wet_14 (by decide) (fun c3 => ?_) (fun c3 => ?_)
      · refine g_iconst C (pc := 21) dX4_wet_21 cI_0 ?_
        refine g_sub [0, 1] rfl ?_
        exact g_lf (if_pos c3) (Jv4 _ (Eq.symm (if_pos c3)))
      · refine g_iconst C (pc := 17) dX4_wet_17 cI_1 ?_
        refine g_goto C (pc := 18) 22 dX4_wet_18 (by decide) ?_
        refine g_sub [0, 1] rfl ?_
        exact g_lf (if_neg c3) (Jv4 _ (Eq.symm (if_neg c3)))
  · refine g_if_ge0 C (pc := 2) 9 dX4_wet_2 (by decide) (fun c1 => ?_) (fun c1 => ?_)
    · refine g_iconst C (pc := 9) dX4_wet_9 cI_0 ?_
      refine g_sub [0, 1] rfl ?_
      exact g_lf (if_pos c1) (Jv2 _ (Eq.symm (if_pos c1)))
    · refine g_iconst C (pc := 5) dX4_wet_5 cI_1 ?_
      refine g_goto C (pc := 6) 10 dX4_wet_6 (by decide) ?_
      refine g_sub [0, 1] rfl ?_
      exact g_lf (if_neg c1) (Jv2 _ (Eq.symm (if_neg c1)))
theorem inX4_run_0 : ∀ w ∈ u_ws RX0 TX0 18, w ∈ wsX4_run := by decide +kernel
theorem inX4_run_4 : ∀ w ∈ u_ws RX4 TX4 8, w ∈ wsX4_run := by decide +kernel
noncomputable def xX4_run (M : St) (p0 : Int32) : Int32 × St := nm (if 1 ≤ p0 then (0) else (1) : Int32) fun v2 => nm (if p0 ≤ 3000 then (0) else (1) : Int32) fun v4 => nm (xX4_outside M v2 v4) fun z5 => nm (z5.2) fun M6 => nm (z5.1 : Int32) fun x7 => if x7 = 0 then (nm (xX0_nodsIn (sh 1 M6) p0) fun z9 => nm (put 1 12 z9.2 M6) fun M10 => (M10 1 11, M10)) else ((x7, M6))
set_option maxHeartbeats 4000000 in
set_option maxRecDepth 100000 in
theorem kX4_run (l : Launch) (D : va_G) (cA : ClassId) (T : Nat × Nat × Nat) (h : Nat → Nat) (M : St) (p0 : Int32) (hz : (Zmain M)) : ∀ sz : Nat, Met l yX4_run wsX4_run { frames := 5, cells := 0, slots := 0, locals := 115 } (va_Pc [.ref (h 0), .int p0] (PreW D cA T (mainW cA h M) sz)) (va_Qi (fun r u => (r, u) = (xX4_run M p0) ∧ (Zmain) u) (fun u => PostW D cA (va_A (mainW cA h M) sz) (mainW cA h u)) (va_A (mainW cA h M) sz)) 0 0 (va_A (mainW cA h M) sz) := by
  refine m_ei (Wf := mainW cA h) (inv := (Zmain)) (cc := cX4_run) (maxL := 3) (own := RX4) (by decide) rfl rfl (Nat.le_of_ble_eq_true rfl) (fun {p e s m args below meth c} A C X => ?_)
  show G p l e { frames := 5, cells := 0, slots := 0, locals := 115 } s m args below meth c 0 0 D A (Qei below D cA A args s 0 0 (mainW cA h) (Zmain) X) 3 X (xX4_run M p0) (mainW cA h M) 0 [(0, .ref (h 0)), (1, .int p0)] []
  unfold xX4_run
  refine g_aload_n C (pc := 0) dX4_run_0 0 rfl ?_
  refine g_iload_n C (pc := 1) dX4_run_1 1 rfl ?_
  refine g_iconst C (pc := 2) dX4_run_2 cI_1 ?_
  refine g_join (α := Int32) (fun v2 => [(0, .ref (h 0)), (1, .int p0)]) (fun v2 => [.int v2, .ref (h 0)]) 11 (fun v2 ev2 => ?_) (fun Jv2 => ?_)
  · refine g_iload_n C (pc := 11) dX4_run_11 1 rfl ?_
    refine g_sipush C (pc := 12) dX4_run_12 cS_3000 ?_
    refine g_join (α := Int32) (fun v4 => [(0, .ref (h 0)), (1, .int p0)]) (fun v4 => [.int v4, .int v2, .ref (h 0)]) 23 (fun v4 ev4 => ?_) (fun Jv4 => ?_)
    · refine g_Vei C (pc := 23) (As := [.int v2, .int v4]) (kX4_outside l D cA T h M v2 v4 hz) (v_id (mainW cA h) M 56 (fun _ => rfl) rfl) gX4_run_X4_outside rfl ⟨rfl, rfl⟩ ⟨Nat.le_of_ble_eq_true rfl, Nat.le_of_ble_eq_true rfl⟩ ⟨Nat.zero_le _, Nat.zero_le _⟩ rfl (Nat.le_of_ble_eq_true rfl) hdV_X4_outside 0 rfl rfl rfl dX4_run_23 (fun z5 ez5 hz_z5 => ?_)
      refine g_nmW (mainW cA h) (fun M6 eM6 => ?_)
      have hz6 : (Zmain M6) := by rw [eM6]; exact hz_z5
      refine g_nmi (fun x7 ex7 => ?_)
      refine g_istore_n C (pc := 26) [(2, .int x7), (0, .ref (h 0)), (1, .int p0)] dX4_run_26 (by decide) rfl ?_
      refine g_iload_n C (pc := 27) dX4_run_27 0 rfl ?_
      refine g_if_eq C (pc := 28) 33 dX4_run_28 (by decide) (fun c8 => ?_) (fun c8 => ?_)
      · refine g_aload_n C (pc := 33) dX4_run_33 1 rfl ?_
        refine g_get C (pc := 34) inX4_run_4 rfl 0 (by decide) (List.mem_of_getElem? (i := 1) rfl) dX4_run_34 0 rfl (.ref (h 1)) rfl ?_
        refine g_iload_n C (pc := 37) dX4_run_37 2 rfl ?_
        refine g_Vei C (pc := 38) (As := [.int p0]) (kX0_nodsIn l D cA T (sh 1 h) (sh 1 M6) p0 ⟨hz6.1, hz6.2.1, hz6.2.2.1, hz6.2.2.2.1, hz6.2.2.2.2.1⟩) (v_main_bird_1 cA h M6) gX4_run_X0_nodsIn rfl ⟨rfl, rfl⟩ ⟨Nat.le_of_ble_eq_true rfl, Nat.le_of_ble_eq_true rfl⟩ ⟨Nat.zero_le _, Nat.zero_le _⟩ rfl (Nat.le_of_ble_eq_true rfl) hdV_X0_nodsIn 0 rfl rfl rfl dX4_run_38 (fun z9 ez9 hz_z9 => ?_)
        refine g_nmW (mainW cA h) (fun M10 eM10 => ?_)
        have hz10 : (Zmain M10) := by rw [eM10]; exact ⟨hz_z9.1, hz_z9.2.1, hz_z9.2.2.1, hz_z9.2.2.2.1, hz_z9.2.2.2.2, hz6.2.2.2.2.2.1, hz6.2.2.2.2.2.2.1, hz6.2.2.2.2.2.2.2.1, hz6.2.2.2.2.2.2.2.2.1, hz6.2.2.2.2.2.2.2.2.2.1, hz6.2.2.2.2.2.2.2.2.2.2.1, hz6.2.2.2.2.2.2.2.2.2.2.2.1, hz6.2.2.2.2.2.2.2.2.2.2.2.2.1, hz6.2.2.2.2.2.2.2.2.2.2.2.2.2.1, hz6.2.2.2.2.2.2.2.2.2.2.2.2.2.2.1, hz6.2.2.2.2.2.2.2.2.2.2.2.2.2.2.2.1, hz6.2.2.2.2.2.2.2.2.2.2.2.2.2.2.2.2.1, hz6.2.2.2.2.2.2.2.2.2.2.2.2.2.2.2.2.2.1, hz6.2.2.2.2.2.2.2.2.2.2.2.2.2.2.2.2.2.2.1, hz6.2.2.2.2.2.2.2.2.2.2.2.2.2.2.2.2.2.2.2.1, hz6.2.2.2.2.2.2.2.2.2.2.2.2.2.2.2.2.2.2.2.2.1, hz6.2.2.2.2.2.2.2.2.2.2.2.2.2.2.2.2.2.2.2.2.2.1, hz6.2.2.2.2.2.2.2.2.2.2.2.2.2.2.2.2.2.2.2.2.2.2⟩
        refine g_pop C (pc := 41) dX4_run_41 rfl ?_
        refine g_aload_n C (pc := 42) dX4_run_42 1 rfl ?_
        refine g_get C (pc := 43) inX4_run_4 rfl 0 (by decide) (List.mem_of_getElem? (i := 1) rfl) dX4_run_43 0 rfl (.ref (h 1)) rfl ?_
        refine g_get C (pc := 46) inX4_run_0 rfl 11 (by decide) (List.mem_of_getElem? (i := 2) rfl) dX4_run_46 1 rfl (.int (M10 1 11)) rfl ?_
        exact r_ei C rfl dX4_run_49 hz10
      · refine g_iload_n C (pc := 31) dX4_run_31 0 rfl ?_
        exact r_ei C rfl dX4_run_32 hz6
    · refine g_icmp_le0 C (pc := 15) 22 dX4_run_15 (by decide) (fun c3 => ?_) (fun c3 => ?_)
      · refine g_iconst C (pc := 22) dX4_run_22 cI_0 ?_
        refine g_sub [0, 1] rfl ?_
        exact g_lf (if_pos c3) (Jv4 _ (Eq.symm (if_pos c3)))
      · refine g_iconst C (pc := 18) dX4_run_18 cI_1 ?_
        refine g_goto C (pc := 19) 23 dX4_run_19 (by decide) ?_
        refine g_sub [0, 1] rfl ?_
        exact g_lf (if_neg c3) (Jv4 _ (Eq.symm (if_neg c3)))
  · refine g_icmp_ge0 C (pc := 3) 10 dX4_run_3 (by decide) (fun c1 => ?_) (fun c1 => ?_)
    · refine g_iconst C (pc := 10) dX4_run_10 cI_0 ?_
      refine g_sub [0, 1] rfl ?_
      exact g_lf (if_pos c1) (Jv2 _ (Eq.symm (if_pos c1)))
    · refine g_iconst C (pc := 6) dX4_run_6 cI_1 ?_
      refine g_goto C (pc := 7) 11 dX4_run_7 (by decide) ?_
      refine g_sub [0, 1] rfl ?_
      exact g_lf (if_neg c1) (Jv2 _ (Eq.symm (if_neg c1)))
theorem inX4_now_0 : ∀ w ∈ u_ws RX0 TX0 18, w ∈ wsX4_now := by decide +kernel
theorem inX4_now_4 : ∀ w ∈ u_ws RX4 TX4 8, w ∈ wsX4_now := by decide +kernel
noncomputable def xX4_now (M : St) (p0 : Int32) : Int32 × St := if p0 = 0 then ((M 1 4, M)) else (if p0 = 1 then ((M 1 5, M)) else (if p0 = 2 then ((M 1 6, M)) else (if p0 = 3 then ((M 1 7, M)) else (if p0 = 4 then ((M 1 8, M)) else (if p0 = 5 then ((M 1 9, M)) else (if p0 = 6 then ((M 1 10, M)) else (if p0 = 7 then ((M 1 11, M)) else (if p0 = 8 then ((M 1 12, M)) else (if p0 = 9 then ((M 1 13, M)) else (if p0 = 10 then ((M 1 14, M)) else (if p0 = 11 then ((M 1 3, M)) else (if p0 = 12 then ((M 1 15, M)) else (nm (xX4_refuse M (-2)) fun z14 => nm (z14.2) fun M15 => ((1000000000 - z14.1), M15))))))))))))))
set_option maxHeartbeats 4000000 in
set_option maxRecDepth 100000 in
theorem kX4_now (l : Launch) (D : va_G) (cA : ClassId) (T : Nat × Nat × Nat) (h : Nat → Nat) (M : St) (p0 : Int32) (hz : (Zmain M)) : ∀ sz : Nat, Met l yX4_now wsX4_now { frames := 2, cells := 0, slots := 0, locals := 43 } (va_Pc [.ref (h 0), .int p0] (PreW D cA T (mainW cA h M) sz)) (va_Qi (fun r u => (r, u) = (xX4_now M p0) ∧ (Zmain) u) (fun u => PostW D cA (va_A (mainW cA h M) sz) (mainW cA h u)) (va_A (mainW cA h M) sz)) 0 0 (va_A (mainW cA h M) sz) := by
  refine m_ei (Wf := mainW cA h) (inv := (Zmain)) (cc := cX4_now) (maxL := 2) (own := RX4) (by decide) rfl rfl (Nat.le_of_ble_eq_true rfl) (fun {p e s m args below meth c} A C X => ?_)
  show G p l e { frames := 2, cells := 0, slots := 0, locals := 43 } s m args below meth c 0 0 D A (Qei below D cA A args s 0 0 (mainW cA h) (Zmain) X) 2 X (xX4_now M p0) (mainW cA h M) 0 [(0, .ref (h 0)), (1, .int p0)] []
  unfold xX4_now
  refine g_iload_n C (pc := 0) dX4_now_0 1 rfl ?_
  refine g_case (p0) 0 (fun c1 => ?_) (fun c1 => ?_)
  · refine g_tblIn C (pc := 1) 68 dX4_now_1 c1 (rfl : (0 : Int32).toInt = 0) (by decide) (by decide) rfl (by decide) ?_
    refine g_aload_n C (pc := 68) dX4_now_68 0 rfl ?_
    refine g_get C (pc := 69) inX4_now_4 rfl 0 (by decide) (List.mem_of_getElem? (i := 1) rfl) dX4_now_69 0 rfl (.ref (h 1)) rfl ?_
    refine g_get C (pc := 72) inX4_now_0 rfl 4 (by decide) (List.mem_of_getElem? (i := 2) rfl) dX4_now_72 1 rfl (.int (M 1 4)) rfl ?_
    exact r_ei C rfl dX4_now_75 hz
  · refine g_case (p0) 1 (fun c2 => ?_) (fun c2 => ?_)
    · refine g_tblIn C (pc := 1) 76 dX4_now_1 c2 (rfl : (1 : Int32).toInt = 1) (by decide) (by decide) rfl (by decide) ?_
      refine g_aload_n C (pc := 76) dX4_now_76 0 rfl ?_
      refine g_get C (pc := 77) inX4_now_4 rfl 0 (by decide) (List.mem_of_getElem? (i := 1) rfl) dX4_now_77 0 rfl (.ref (h 1)) rfl ?_
      refine g_get C (pc := 80) inX4_now_0 rfl 5 (by decide) (List.mem_of_getElem? (i := 3) rfl) dX4_now_80 1 rfl (.int (M 1 5)) rfl ?_
      exact r_ei C rfl dX4_now_83 hz
    · refine g_case (p0) 2 (fun c3 => ?_) (fun c3 => ?_)
      · refine g_tblIn C (pc := 1) 84 dX4_now_1 c3 (rfl : (2 : Int32).toInt = 2) (by decide) (by decide) rfl (by decide) ?_
        refine g_aload_n C (pc := 84) dX4_now_84 0 rfl ?_
        refine g_get C (pc := 85) inX4_now_4 rfl 0 (by decide) (List.mem_of_getElem? (i := 1) rfl) dX4_now_85 0 rfl (.ref (h 1)) rfl ?_
        refine g_get C (pc := 88) inX4_now_0 rfl 6 (by decide) (List.mem_of_getElem? (i := 4) rfl) dX4_now_88 1 rfl (.int (M 1 6)) rfl ?_
        exact r_ei C rfl dX4_now_91 hz
      · refine g_case (p0) 3 (fun c4 => ?_) (fun c4 => ?_)
        · refine g_tblIn C (pc := 1) 92 dX4_now_1 c4 (rfl : (3 : Int32).toInt = 3) (by decide) (by decide) rfl (by decide) ?_
          refine g_aload_n C (pc := 92) dX4_now_92 0 rfl ?_
          refine g_get C (pc := 93) inX4_now_4 rfl 0 (by decide) (List.mem_of_getElem? (i := 1) rfl) dX4_now_93 0 rfl (.ref (h 1)) rfl ?_
          refine g_get C (pc := 96) inX4_now_0 rfl 7 (by decide) (List.mem_of_getElem? (i := 5) rfl) dX4_now_96 1 rfl (.int (M 1 7)) rfl ?_
          exact r_ei C rfl dX4_now_99 hz
        · refine g_case (p0) 4 (fun c5 => ?_) (fun c5 => ?_)
          · refine g_tblIn C (pc := 1) 100 dX4_now_1 c5 (rfl : (4 : Int32).toInt = 4) (by decide) (by decide) rfl (by decide) ?_
            refine g_aload_n C (pc := 100) dX4_now_100 0 rfl ?_
            refine g_get C (pc := 101) inX4_now_4 rfl 0 (by decide) (List.mem_of_getElem? (i := 1) rfl) dX4_now_101 0 rfl (.ref (h 1)) rfl ?_
            refine g_get C (pc := 104) inX4_now_0 rfl 8 (by decide) (List.mem_of_getElem? (i := 6) rfl) dX4_now_104 1 rfl (.int (M 1 8)) rfl ?_
            exact r_ei C rfl dX4_now_107 hz
          · refine g_case (p0) 5 (fun c6 => ?_) (fun c6 => ?_)
            · refine g_tblIn C (pc := 1) 108 dX4_now_1 c6 (rfl : (5 : Int32).toInt = 5) (by decide) (by decide) rfl (by decide) ?_
              refine g_aload_n C (pc := 108) dX4_now_108 0 rfl ?_
              refine g_get C (pc := 109) inX4_now_4 rfl 0 (by decide) (List.mem_of_getElem? (i := 1) rfl) dX4_now_109 0 rfl (.ref (h 1)) rfl ?_
              refine g_get C (pc := 112) inX4_now_0 rfl 9 (by decide) (List.mem_of_getElem? (i := 7) rfl) dX4_now_112 1 rfl (.int (M 1 9)) rfl ?_
              exact r_ei C rfl dX4_now_115 hz
            · refine g_case (p0) 6 (fun c7 => ?_) (fun c7 => ?_)
              · refine g_tblIn C (pc := 1) 116 dX4_now_1 c7 (rfl : (6 : Int32).toInt = 6) (by decide) (by decide) rfl (by decide) ?_
                refine g_aload_n C (pc := 116) dX4_now_116 0 rfl ?_
                refine g_get C (pc := 117) inX4_now_4 rfl 0 (by decide) (List.mem_of_getElem? (i := 1) rfl) dX4_now_117 0 rfl (.ref (h 1)) rfl ?_
                refine g_get C (pc := 120) inX4_now_0 rfl 10 (by decide) (List.mem_of_getElem? (i := 8) rfl) dX4_now_120 1 rfl (.int (M 1 10)) rfl ?_
                exact r_ei C rfl dX4_now_123 hz
              · refine g_case (p0) 7 (fun c8 => ?_) (fun c8 => ?_)
                · refine g_tblIn C (pc := 1) 124 dX4_now_1 c8 (rfl : (7 : Int32).toInt = 7) (by decide) (by decide) rfl (by decide) ?_
                  refine g_aload_n C (pc := 124) dX4_now_124 0 rfl ?_
                  refine g_get C (pc := 125) inX4_now_4 rfl 0 (by decide) (List.mem_of_getElem? (i := 1) rfl) dX4_now_125 0 rfl (.ref (h 1)) rfl ?_
                  refine g_get C (pc := 128) inX4_now_0 rfl 11 (by decide) (List.mem_of_getElem? (i := 9) rfl) dX4_now_128 1 rfl (.int (M 1 11)) rfl ?_
                  exact r_ei C rfl dX4_now_131 hz
                · refine g_case (p0) 8 (fun c9 => ?_) (fun c9 => ?_)
                  · refine g_tblIn C (pc := 1) 132 dX4_now_1 c9 (rfl : (8 : Int32).toInt = 8) (by decide) (by decide) rfl (by decide) ?_
                    refine g_aload_n C (pc := 132) dX4_now_132 0 rfl ?_
                    refine g_get C (pc := 133) inX4_now_4 rfl 0 (by decide) (List.mem_of_getElem? (i := 1) rfl) dX4_now_133 0 rfl (.ref (h 1)) rfl ?_
                    refine g_get C (pc := 136) inX4_now_0 rfl 12 (by decide) (List.mem_of_getElem? (i := 10) rfl) dX4_now_136 1 rfl (.int (M 1 12)) rfl ?_
                    exact r_ei C rfl dX4_now_139 hz
                  · refine g_case (p0) 9 (fun c10 => ?_) (fun c10 => ?_)
                    · refine g_tblIn C (pc := 1) 140 dX4_now_1 c10 (rfl : (9 : Int32).toInt = 9) (by decide) (by decide) rfl (by decide) ?_
                      refine g_aload_n C (pc := 140) dX4_now_140 0 rfl ?_
                      refine g_get C (pc := 141) inX4_now_4 rfl 0 (by decide) (List.mem_of_getElem? (i := 1) rfl) dX4_now_141 0 rfl (.ref (h 1)) rfl ?_
                      refine g_get C (pc := 144) inX4_now_0 rfl 13 (by decide) (List.mem_of_getElem? (i := 11) rfl) dX4_now_144 1 rfl (.int (M 1 13)) rfl ?_
                      exact r_ei C rfl dX4_now_147 hz
                    · refine g_case (p0) 10 (fun c11 => ?_) (fun c11 => ?_)
                      · refine g_tblIn C (pc := 1) 148 dX4_now_1 c11 (rfl : (10 : Int32).toInt = 10) (by decide) (by decide) rfl (by decide) ?_
                        refine g_aload_n C (pc := 148) dX4_now_148 0 rfl ?_
                        refine g_get C (pc := 149) inX4_now_4 rfl 0 (by decide) (List.mem_of_getElem? (i := 1) rfl) dX4_now_149 0 rfl (.ref (h 1)) rfl ?_
                        refine g_get C (pc := 152) inX4_now_0 rfl 14 (by decide) (List.mem_of_getElem? (i := 12) rfl) dX4_now_152 1 rfl (.int (M 1 14)) rfl ?_
                        exact r_ei C rfl dX4_now_155 hz
                      · refine g_case (p0) 11 (fun c12 => ?_) (fun c12 => ?_)
                        · refine g_tblIn C (pc := 1) 156 dX4_now_1 c12 (rfl : (11 : Int32).toInt = 11) (by decide) (by decide) rfl (by decide) ?_
                          refine g_aload_n C (pc := 156) dX4_now_156 0 rfl ?_
                          refine g_get C (pc := 157) inX4_now_4 rfl 0 (by decide) (List.mem_of_getElem? (i := 1) rfl) dX4_now_157 0 rfl (.ref (h 1)) rfl ?_
                          refine g_get C (pc := 160) inX4_now_0 rfl 3 (by decide) (List.mem_of_getElem? (i := 13) rfl) dX4_now_160 1 rfl (.int (M 1 3)) rfl ?_
                          exact r_ei C rfl dX4_now_163 hz
                        · refine g_case (p0) 12 (fun c13 => ?_) (fun c13 => ?_)
                          · refine g_tblIn C (pc := 1) 164 dX4_now_1 c13 (rfl : (12 : Int32).toInt = 12) (by decide) (by decide) rfl (by decide) ?_
                            refine g_aload_n C (pc := 164) dX4_now_164 0 rfl ?_
                            refine g_get C (pc := 165) inX4_now_4 rfl 0 (by decide) (List.mem_of_getElem? (i := 1) rfl) dX4_now_165 0 rfl (.ref (h 1)) rfl ?_
                            refine g_get C (pc := 168) inX4_now_0 rfl 15 (by decide) (List.mem_of_getElem? (i := 14) rfl) dX4_now_168 1 rfl (.int (M 1 15)) rfl ?_
                            exact r_ei C rfl dX4_now_171 hz
                          · refine g_tblOut C (pc := 1) 172 dX4_now_1 (by have q0 : ¬ (p0 : Int32).toInt = 0 := lv_neT c1 rfl; have q1 : ¬ (p0 : Int32).toInt = 1 := lv_neT c2 rfl; have q2 : ¬ (p0 : Int32).toInt = 2 := lv_neT c3 rfl; have q3 : ¬ (p0 : Int32).toInt = 3 := lv_neT c4 rfl; have q4 : ¬ (p0 : Int32).toInt = 4 := lv_neT c5 rfl; have q5 : ¬ (p0 : Int32).toInt = 5 := lv_neT c6 rfl; have q6 : ¬ (p0 : Int32).toInt = 6 := lv_neT c7 rfl; have q7 : ¬ (p0 : Int32).toInt = 7 := lv_neT c8 rfl; have q8 : ¬ (p0 : Int32).toInt = 8 := lv_neT c9 rfl; have q9 : ¬ (p0 : Int32).toInt = 9 := lv_neT c10 rfl; have q10 : ¬ (p0 : Int32).toInt = 10 := lv_neT c11 rfl; have q11 : ¬ (p0 : Int32).toInt = 11 := lv_neT c12 rfl; have q12 : ¬ (p0 : Int32).toInt = 12 := lv_neT c13 rfl; omega) (by decide) ?_
                            refine g_ldc C (pc := 172) (v := 1000000000) dX4_now_172 (List.mem_of_getElem? (i := 15) rfl) ?_
                            refine g_aload_n C (pc := 174) dX4_now_174 0 rfl ?_
                            refine g_bipush C (pc := 175) dX4_now_175 cB_m2 ?_
                            refine g_Vei C (pc := 177) (As := [.int (-2)]) (kX4_refuse l D cA T h M (-2) hz) (v_id (mainW cA h) M 56 (fun _ => rfl) rfl) gX4_now_X4_refuse rfl ⟨rfl, rfl⟩ ⟨Nat.le_of_ble_eq_true rfl, Nat.le_of_ble_eq_true rfl⟩ ⟨Nat.zero_le _, Nat.zero_le _⟩ rfl (Nat.le_of_ble_eq_true rfl) hdV_X4_refuse 0 rfl rfl rfl dX4_now_177 (fun z14 ez14 hz_z14 => ?_)
                            refine g_nmW (mainW cA h) (fun M15 eM15 => ?_)
                            have hz15 : (Zmain M15) := by rw [eM15]; exact hz_z14
                            refine g_isub C (pc := 180) dX4_now_180 ?_
                            exact r_ei C rfl dX4_now_181 hz15
theorem inX4_air_4 : ∀ w ∈ u_ws RX4 TX4 8, w ∈ wsX4_air := by decide +kernel
noncomputable def xX4_air_j9 (M : St) : Int32 × St := nm (xX4_refuse M (-2)) fun z1 => nm (z1.2) fun M2 => (z1.1, M2)
noncomputable def xX4_air (M : St) (p0 : Int32) : Int32 × St := if p0 < 0 then (xX4_air_j9 M ) else (if p0 ≤ 3 then (((xX0_airOf (sh 1 M) (8 + p0)), M)) else (xX4_air_j9 M ))
set_option maxHeartbeats 4000000 in
set_option maxRecDepth 100000 in
theorem kX4_air (l : Launch) (D : va_G) (cA : ClassId) (T : Nat × Nat × Nat) (h : Nat → Nat) (M : St) (p0 : Int32) (hz : (Zmain M)) : ∀ sz : Nat, Met l yX4_air wsX4_air { frames := 3, cells := 0, slots := 0, locals := 69 } (va_Pc [.ref (h 0), .int p0] (PreW D cA T (mainW cA h M) sz)) (va_Qi (fun r u => (r, u) = (xX4_air M p0) ∧ (Zmain) u) (fun u => PostW D cA (va_A (mainW cA h M) sz) (mainW cA h u)) (va_A (mainW cA h M) sz)) 0 0 (va_A (mainW cA h M) sz) := by
  refine m_ei (Wf := mainW cA h) (inv := (Zmain)) (cc := cX4_air) (maxL := 2) (own := RX4) (by decide) rfl rfl (Nat.le_of_ble_eq_true rfl) (fun {p e s m args below meth c} A C X => ?_)
  show G p l e { frames := 3, cells := 0, slots := 0, locals := 69 } s m args below meth c 0 0 D A (Qei below D cA A args s 0 0 (mainW cA h) (Zmain) X) 2 X (xX4_air M p0) (mainW cA h M) 0 [(0, .ref (h 0)), (1, .int p0)] []
  unfold xX4_air
  refine g_iload_n C (pc := 0) dX4_air_0 1 rfl ?_
  have J9 : ∀ (_ : True), G p l e { frames := 3, cells := 0, slots := 0, locals := 69 } s m args below meth c 0 0 D A (Qei below D cA A args s 0 0 (mainW cA h) (Zmain) X) 2 X (xX4_air_j9 M ) (mainW cA h M) 9 [(0, .ref (h 0))] [] := by
    intro _
    unfold xX4_air_j9
    refine g_aload_n C (pc := 9) dX4_air_9 0 rfl ?_
    refine g_bipush C (pc := 10) dX4_air_10 cB_m2 ?_
    refine g_Vei C (pc := 12) (As := [.int (-2)]) (kX4_refuse l D cA T h M (-2) hz) (v_id (mainW cA h) M 56 (fun _ => rfl) rfl) gX4_air_X4_refuse rfl ⟨rfl, rfl⟩ ⟨Nat.le_of_ble_eq_true rfl, Nat.le_of_ble_eq_true rfl⟩ ⟨Nat.zero_le _, Nat.zero_le _⟩ rfl (Nat.le_of_ble_eq_true rfl) hdV_X4_refuse 0 rfl rfl rfl dX4_air_12 (fun z1 ez1 hz_z1 => ?_)
    refine g_nmW (mainW cA h) (fun M2 eM2 => ?_)
    have hz2 : (Zmain M2) := by rw [eM2]; exact hz_z1
    exact r_ei C rfl dX4_air_15 hz2
  refine g_if_lt C (pc := 1) 9 dX4_air_1 (by decide) (fun c3 => ?_) (fun c3 => ?_)
  · refine g_sub [0] rfl ?_
    exact J9 trivial
  · refine g_iload_n C (pc := 4) dX4_air_4 1 rfl ?_
    refine g_iconst C (pc := 5) dX4_air_5 cI_3 ?_
    refine g_icmp_le C (pc := 6) 16 dX4_air_6 (by decide) (fun c4 => ?_) (fun c4 => ?_)
    · refine g_aload_n C (pc := 16) dX4_air_16 0 rfl ?_
      refine g_get C (pc := 17) inX4_air_4 rfl 0 (by decide) (List.mem_of_getElem? (i := 1) rfl) dX4_air_17 0 rfl (.ref (h 1)) rfl ?_
      refine g_bipush C (pc := 20) dX4_air_20 cB_8 ?_
      refine g_iload_n C (pc := 22) dX4_air_22 1 rfl ?_
      refine g_iadd C (pc := 23) dX4_air_23 ?_
      refine g_Vpi C (pc := 24) (As := [.int (8 + p0)]) (kX0_airOf l D cA T (sh 1 h) (sh 1 M) (8 + p0) ⟨hz.1, hz.2.1, hz.2.2.1, hz.2.2.2.1, hz.2.2.2.2.1⟩) (v_main_bird_1 cA h M) gX4_air_X0_airOf rfl ⟨rfl, rfl⟩ ⟨Nat.le_of_ble_eq_true rfl, Nat.le_of_ble_eq_true rfl⟩ ⟨Nat.zero_le _, Nat.zero_le _⟩ rfl (Nat.le_of_ble_eq_true rfl) hdV_X0_airOf 0 rfl rfl rfl dX4_air_24 ?_
      exact r_ei C rfl dX4_air_27 hz
    · refine g_sub [0] rfl ?_
      exact J9 trivial
theorem inX4_often_4 : ∀ w ∈ u_ws RX4 TX4 8, w ∈ wsX4_often := by decide +kernel
noncomputable def xX4_often (M : St) (p0 : Int32) : Int32 × St := nm (if 1 ≤ p0 then (0) else (1) : Int32) fun v2 => nm (if p0 ≤ 3000 then (0) else (1) : Int32) fun v4 => nm (xX4_outside M v2 v4) fun z5 => nm (z5.2) fun M6 => nm (z5.1 : Int32) fun x7 => if x7 = 0 then (nm (xX0_become (sh2 25 12 1 M6)) fun z9 => nm (put2 25 12 1 12 z9 M6) fun M10 => nm (xX0_nodsIn (sh 25 M10) p0) fun z11 => nm (put 25 12 z11.2 M10) fun M12 => (z11.1, M12)) else ((x7, M6))
set_option maxHeartbeats 4000000 in
set_option maxRecDepth 100000 in
theorem kX4_often (l : Launch) (D : va_G) (cA : ClassId) (T : Nat × Nat × Nat) (h : Nat → Nat) (M : St) (p0 : Int32) (hz : (Zmain M)) : ∀ sz : Nat, Met l yX4_often wsX4_often { frames := 5, cells := 0, slots := 0, locals := 128 } (va_Pc [.ref (h 0), .int p0] (PreW D cA T (mainW cA h M) sz)) (va_Qi (fun r u => (r, u) = (xX4_often M p0) ∧ (Zmain) u) (fun u => PostW D cA (va_A (mainW cA h M) sz) (mainW cA h u)) (va_A (mainW cA h M) sz)) 0 0 (va_A (mainW cA h M) sz) := by
  refine m_ei (Wf := mainW cA h) (inv := (Zmain)) (cc := cX4_often) (maxL := 3) (own := RX4) (by decide) rfl rfl (Nat.le_of_ble_eq_true rfl) (fun {p e s m args below meth c} A C X => ?_)
  show G p l e { frames := 5, cells := 0, slots := 0, locals := 128 } s m args below meth c 0 0 D A (Qei below D cA A args s 0 0 (mainW cA h) (Zmain) X) 3 X (xX4_often M p0) (mainW cA h M) 0 [(0, .ref (h 0)), (1, .int p0)] []
  unfold xX4_often
  refine g_aload_n C (pc := 0) dX4_often_0 0 rfl ?_
  refine g_iload_n C (pc := 1) dX4_often_1 1 rfl ?_
  refine g_iconst C (pc := 2) dX4_often_2 cI_1 ?_
  refine g_join (α := Int32) (fun v2 => [(0, .ref (h 0)), (1, .int p0)]) (fun v2 => [.int v2, .ref (h 0)]) 11 (fun v2 ev2 => ?_) (fun Jv2 => ?_)
  · refine g_iload_n C (pc := 11) dX4_often_11 1 rfl ?_
    refine g_sipush C (pc := 12) dX4_often_12 cS_3000 ?_
    refine g_join (α := Int32) (fun v4 => [(0, .ref (h 0)), (1, .int p0)]) (fun v4 => [.int v4, .int v2, .ref (h 0)]) 23 (fun v4 ev4 => ?_) (fun Jv4 => ?_)
    · refine g_Vei C (pc := 23) (As := [.int v2, .int v4]) (kX4_outside l D cA T h M v2 v4 hz) (v_id (mainW cA h) M 56 (fun _ => rfl) rfl) gX4_often_X4_outside rfl ⟨rfl, rfl⟩ ⟨Nat.le_of_ble_eq_true rfl, Nat.le_of_ble_eq_true rfl⟩ ⟨Nat.zero_le _, Nat.zero_le _⟩ rfl (Nat.le_of_ble_eq_true rfl) hdV_X4_outside 0 rfl rfl rfl dX4_often_23 (fun z5 ez5 hz_z5 => ?_)
      refine g_nmW (mainW cA h) (fun M6 eM6 => ?_)
      have hz6 : (Zmain M6) := by rw [eM6]; exact hz_z5
      refine g_nmi (fun x7 ex7 => ?_)
      refine g_istore_n C (pc := 26) [(2, .int x7), (0, .ref (h 0)), (1, .int p0)] dX4_often_26 (by decide) rfl ?_
      refine g_iload_n C (pc := 27) dX4_often_27 0 rfl ?_
      refine g_if_eq C (pc := 28) 33 dX4_often_28 (by decide) (fun c8 => ?_) (fun c8 => ?_)
      · refine g_aload_n C (pc := 33) dX4_often_33 1 rfl ?_
        refine g_get C (pc := 34) inX4_often_4 rfl 2 (by decide) (List.mem_of_getElem? (i := 1) rfl) dX4_often_34 0 rfl (.ref (h 25)) rfl ?_
        refine g_aload_n C (pc := 37) dX4_often_37 1 rfl ?_
        refine g_get C (pc := 38) inX4_often_4 rfl 0 (by decide) (List.mem_of_getElem? (i := 2) rfl) dX4_often_38 0 rfl (.ref (h 1)) rfl ?_
        refine g_Vev C (pc := 41) (As := [.ref (h 1)]) (kX0_become l D cA T (sh2 25 12 1 h) (sh2 25 12 1 M6) ⟨hz6.2.2.2.2.2.2.2.2.2.2.1, hz6.2.2.2.2.2.2.2.2.2.2.2.1, hz6.2.2.2.2.2.2.2.2.2.2.2.2.1, hz6.2.2.2.2.2.2.2.2.2.2.2.2.2.1, hz6.2.2.2.2.2.2.2.2.2.2.2.2.2.2.1, hz6.1, hz6.2.1, hz6.2.2.1, hz6.2.2.2.1, hz6.2.2.2.2.1⟩) (v_main_bird2_25_1 cA h M6) gX4_often_X0_become rfl ⟨rfl, rfl⟩ ⟨Nat.le_of_ble_eq_true rfl, Nat.le_of_ble_eq_true rfl⟩ ⟨Nat.zero_le _, Nat.zero_le _⟩ rfl (Nat.le_of_ble_eq_true rfl) hdV_X0_become 0 rfl rfl rfl dX4_often_41 (fun z9 ez9 hz_z9 => ?_)
        refine g_nmW (mainW cA h) (fun M10 eM10 => ?_)
        have hz10 : (Zmain M10) := by rw [eM10]; exact ⟨hz_z9.2.2.2.2.2.1, hz_z9.2.2.2.2.2.2.1, hz_z9.2.2.2.2.2.2.2.1, hz_z9.2.2.2.2.2.2.2.2.1, hz_z9.2.2.2.2.2.2.2.2.2, hz6.2.2.2.2.2.1, hz6.2.2.2.2.2.2.1, hz6.2.2.2.2.2.2.2.1, hz6.2.2.2.2.2.2.2.2.1, hz6.2.2.2.2.2.2.2.2.2.1, hz_z9.1, hz_z9.2.1, hz_z9.2.2.1, hz_z9.2.2.2.1, hz_z9.2.2.2.2.1, hz6.2.2.2.2.2.2.2.2.2.2.2.2.2.2.2.1, hz6.2.2.2.2.2.2.2.2.2.2.2.2.2.2.2.2.1, hz6.2.2.2.2.2.2.2.2.2.2.2.2.2.2.2.2.2.1, hz6.2.2.2.2.2.2.2.2.2.2.2.2.2.2.2.2.2.2.1, hz6.2.2.2.2.2.2.2.2.2.2.2.2.2.2.2.2.2.2.2.1, hz6.2.2.2.2.2.2.2.2.2.2.2.2.2.2.2.2.2.2.2.2.1, hz6.2.2.2.2.2.2.2.2.2.2.2.2.2.2.2.2.2.2.2.2.2.1, hz6.2.2.2.2.2.2.2.2.2.2.2.2.2.2.2.2.2.2.2.2.2.2⟩
        refine g_aload_n C (pc := 44) dX4_often_44 1 rfl ?_
        refine g_get C (pc := 45) inX4_often_4 rfl 2 (by decide) (List.mem_of_getElem? (i := 1) rfl) dX4_often_45 0 rfl (.ref (h 25)) rfl ?_
        refine g_iload_n C (pc := 48) dX4_often_48 2 rfl ?_
        refine g_Vei C (pc := 49) (As := [.int p0]) (kX0_nodsIn l D cA T (sh 25 h) (sh 25 M10) p0 ⟨hz10.2.2.2.2.2.2.2.2.2.2.1, hz10.2.2.2.2.2.2.2.2.2.2.2.1, hz10.2.2.2.2.2.2.2.2.2.2.2.2.1, hz10.2.2.2.2.2.2.2.2.2.2.2.2.2.1, hz10.2.2.2.2.2.2.2.2.2.2.2.2.2.2.1⟩) (v_main_bird_25 cA h M10) gX4_often_X0_nodsIn rfl ⟨rfl, rfl⟩ ⟨Nat.le_of_ble_eq_true rfl, Nat.le_of_ble_eq_true rfl⟩ ⟨Nat.zero_le _, Nat.zero_le _⟩ rfl (Nat.le_of_ble_eq_true rfl) hdV_X0_nodsIn 0 rfl rfl rfl dX4_often_49 (fun z11 ez11 hz_z11 => ?_)
        refine g_nmW (mainW cA h) (fun M12 eM12 => ?_)
        have hz12 : (Zmain M12) := by rw [eM12]; exact ⟨hz10.1, hz10.2.1, hz10.2.2.1, hz10.2.2.2.1, hz10.2.2.2.2.1, hz10.2.2.2.2.2.1, hz10.2.2.2.2.2.2.1, hz10.2.2.2.2.2.2.2.1, hz10.2.2.2.2.2.2.2.2.1, hz10.2.2.2.2.2.2.2.2.2.1, hz_z11.1, hz_z11.2.1, hz_z11.2.2.1, hz_z11.2.2.2.1, hz_z11.2.2.2.2, hz10.2.2.2.2.2.2.2.2.2.2.2.2.2.2.2.1, hz10.2.2.2.2.2.2.2.2.2.2.2.2.2.2.2.2.1, hz10.2.2.2.2.2.2.2.2.2.2.2.2.2.2.2.2.2.1, hz10.2.2.2.2.2.2.2.2.2.2.2.2.2.2.2.2.2.2.1, hz10.2.2.2.2.2.2.2.2.2.2.2.2.2.2.2.2.2.2.2.1, hz10.2.2.2.2.2.2.2.2.2.2.2.2.2.2.2.2.2.2.2.2.1, hz10.2.2.2.2.2.2.2.2.2.2.2.2.2.2.2.2.2.2.2.2.2.1, hz10.2.2.2.2.2.2.2.2.2.2.2.2.2.2.2.2.2.2.2.2.2.2⟩
        exact r_ei C rfl dX4_often_52 hz12
      · refine g_iload_n C (pc := 31) dX4_often_31 0 rfl ?_
        exact r_ei C rfl dX4_often_32 hz6
    · refine g_icmp_le0 C (pc := 15) 22 dX4_often_15 (by decide) (fun c3 => ?_) (fun c3 => ?_)
      · refine g_iconst C (pc := 22) dX4_often_22 cI_0 ?_
        refine g_sub [0, 1] rfl ?_
        exact g_lf (if_pos c3) (Jv4 _ (Eq.symm (if_pos c3)))
      · refine g_iconst C (pc := 18) dX4_often_18 cI_1 ?_
        refine g_goto C (pc := 19) 23 dX4_often_19 (by decide) ?_
        refine g_sub [0, 1] rfl ?_
        exact g_lf (if_neg c3) (Jv4 _ (Eq.symm (if_neg c3)))
  · refine g_icmp_ge0 C (pc := 3) 10 dX4_often_3 (by decide) (fun c1 => ?_) (fun c1 => ?_)
    · refine g_iconst C (pc := 10) dX4_often_10 cI_0 ?_
      refine g_sub [0, 1] rfl ?_
      exact g_lf (if_pos c1) (Jv2 _ (Eq.symm (if_pos c1)))
    · refine g_iconst C (pc := 6) dX4_often_6 cI_1 ?_
      refine g_goto C (pc := 7) 11 dX4_often_7 (by decide) ?_
      refine g_sub [0, 1] rfl ?_
      exact g_lf (if_neg c1) (Jv2 _ (Eq.symm (if_neg c1)))
theorem inX4_freshWith_4 : ∀ w ∈ u_ws RX4 TX4 8, w ∈ wsX4_freshWith := by decide +kernel
noncomputable def xX4_freshWith (M : St) (p0 : Int32) (p1 : Int32) : St := nm (xX0_hatch (sh2 25 12 1 M) p0 p1) fun z1 => nm (put2 25 12 1 12 z1 M) fun M2 => M2
set_option maxHeartbeats 4000000 in
set_option maxRecDepth 100000 in
theorem kX4_freshWith (l : Launch) (D : va_G) (cA : ClassId) (T : Nat × Nat × Nat) (h : Nat → Nat) (M : St) (p0 : Int32) (p1 : Int32) (hz : (Zmain M)) : ∀ sz : Nat, Met l yX4_freshWith wsX4_freshWith { frames := 3, cells := 0, slots := 0, locals := 109 } (va_Pc [.ref (h 0), .int p0, .int p1] (PreW D cA T (mainW cA h M) sz)) (va_Qr (fun u => u = (xX4_freshWith M p0 p1) ∧ (Zmain) u) (fun u a t => a = (h 25) ∧ PostW D cA (va_A (mainW cA h M) sz) (mainW cA h u) t) (va_A (mainW cA h M) sz)) 0 0 (va_A (mainW cA h M) sz) := by
  refine m_er (Wf := mainW cA h) (inv := (Zmain)) (a0 := (h 25)) (cc := cX4_freshWith) (maxL := 3) (own := RX4) (by decide) rfl rfl (Nat.le_of_ble_eq_true rfl) (fun {p e s m args below meth c} A C X => ?_)
  show G p l e { frames := 3, cells := 0, slots := 0, locals := 109 } s m args below meth c 0 0 D A (Qer below D cA A args s 0 0 (h 25) (mainW cA h) (Zmain) X) 3 X (xX4_freshWith M p0 p1) (mainW cA h M) 0 [(0, .ref (h 0)), (1, .int p0), (2, .int p1)] []
  unfold xX4_freshWith
  refine g_aload_n C (pc := 0) dX4_freshWith_0 0 rfl ?_
  refine g_get C (pc := 1) inX4_freshWith_4 rfl 2 (by decide) (List.mem_of_getElem? (i := 1) rfl) dX4_freshWith_1 0 rfl (.ref (h 25)) rfl ?_
  refine g_aload_n C (pc := 4) dX4_freshWith_4 0 rfl ?_
  refine g_get C (pc := 5) inX4_freshWith_4 rfl 0 (by decide) (List.mem_of_getElem? (i := 2) rfl) dX4_freshWith_5 0 rfl (.ref (h 1)) rfl ?_
  refine g_iload_n C (pc := 8) dX4_freshWith_8 1 rfl ?_
  refine g_iload_n C (pc := 9) dX4_freshWith_9 2 rfl ?_
  refine g_Vev C (pc := 10) (As := [.ref (h 1), .int p0, .int p1]) (kX0_hatch l D cA T (sh2 25 12 1 h) (sh2 25 12 1 M) p0 p1 ⟨hz.2.2.2.2.2.2.2.2.2.2.1, hz.2.2.2.2.2.2.2.2.2.2.2.1, hz.2.2.2.2.2.2.2.2.2.2.2.2.1, hz.2.2.2.2.2.2.2.2.2.2.2.2.2.1, hz.2.2.2.2.2.2.2.2.2.2.2.2.2.2.1, hz.1, hz.2.1, hz.2.2.1, hz.2.2.2.1, hz.2.2.2.2.1⟩) (v_main_bird2_25_1 cA h M) gX4_freshWith_X0_hatch rfl ⟨rfl, rfl⟩ ⟨Nat.le_of_ble_eq_true rfl, Nat.le_of_ble_eq_true rfl⟩ ⟨Nat.zero_le _, Nat.zero_le _⟩ rfl (Nat.le_of_ble_eq_true rfl) hdV_X0_hatch 0 rfl rfl rfl dX4_freshWith_10 (fun z1 ez1 hz_z1 => ?_)
  refine g_nmW (mainW cA h) (fun M2 eM2 => ?_)
  have hz2 : (Zmain M2) := by rw [eM2]; exact ⟨hz_z1.2.2.2.2.2.1, hz_z1.2.2.2.2.2.2.1, hz_z1.2.2.2.2.2.2.2.1, hz_z1.2.2.2.2.2.2.2.2.1, hz_z1.2.2.2.2.2.2.2.2.2, hz.2.2.2.2.2.1, hz.2.2.2.2.2.2.1, hz.2.2.2.2.2.2.2.1, hz.2.2.2.2.2.2.2.2.1, hz.2.2.2.2.2.2.2.2.2.1, hz_z1.1, hz_z1.2.1, hz_z1.2.2.1, hz_z1.2.2.2.1, hz_z1.2.2.2.2.1, hz.2.2.2.2.2.2.2.2.2.2.2.2.2.2.2.1, hz.2.2.2.2.2.2.2.2.2.2.2.2.2.2.2.2.1, hz.2.2.2.2.2.2.2.2.2.2.2.2.2.2.2.2.2.1, hz.2.2.2.2.2.2.2.2.2.2.2.2.2.2.2.2.2.2.1, hz.2.2.2.2.2.2.2.2.2.2.2.2.2.2.2.2.2.2.2.1, hz.2.2.2.2.2.2.2.2.2.2.2.2.2.2.2.2.2.2.2.2.1, hz.2.2.2.2.2.2.2.2.2.2.2.2.2.2.2.2.2.2.2.2.2.1, hz.2.2.2.2.2.2.2.2.2.2.2.2.2.2.2.2.2.2.2.2.2.2⟩
  refine g_aload_n C (pc := 13) dX4_freshWith_13 0 rfl ?_
  refine g_get C (pc := 14) inX4_freshWith_4 rfl 2 (by decide) (List.mem_of_getElem? (i := 1) rfl) dX4_freshWith_14 0 rfl (.ref (h 25)) rfl ?_
  exact r_er C rfl dX4_freshWith_17 hz2

noncomputable def xX4_law (M : St) (p0 : Int32) (p1 : Int32) : Int32 × St := nm (if p0 < 0 then (1) else (if 1 ≤ p1 then (0) else (1)) : Int32) fun v3 => nm (if 99 < p0 then (1) else (if p1 ≤ 3000 then (0) else (1)) : Int32) fun v6 => nm (xX4_outside M v3 v6) fun z7 => nm (z7.2) fun M8 => nm (z7.1 : Int32) fun x9 => if x9 = 0 then (nm (xX4_freshWith M8 8 p0) fun M11 => nm (xX0_nodsIn (sh 25 M11) p1) fun z12 => nm (put 25 12 z12.2 M11) fun M13 => (z12.1, M13)) else ((x9, M8))
set_option maxHeartbeats 4000000 in
set_option maxRecDepth 100000 in
theorem kX4_law (l : Launch) (D : va_G) (cA : ClassId) (T : Nat × Nat × Nat) (h : Nat → Nat) (M : St) (p0 : Int32) (p1 : Int32) (hz : (Zmain M)) : ∀ sz : Nat, Met l yX4_law wsX4_law { frames := 5, cells := 0, slots := 0, locals := 131 } (va_Pc [.ref (h 0), .int p0, .int p1] (PreW D cA T (mainW cA h M) sz)) (va_Qi (fun r u => (r, u) = (xX4_law M p0 p1) ∧ (Zmain) u) (fun u => PostW D cA (va_A (mainW cA h M) sz) (mainW cA h u)) (va_A (mainW cA h M) sz)) 0 0 (va_A (mainW cA h M) sz) := by
  refine m_ei (Wf := mainW cA h) (inv := (Zmain)) (cc := cX4_law) (maxL := 4) (own := RX4) (by decide) rfl rfl (Nat.le_of_ble_eq_true rfl) (fun {p e s m args below meth c} A C X => ?_)
  show G p l e { frames := 5, cells := 0, slots := 0, locals := 131 } s m args below meth c 0 0 D A (Qei below D cA A args s 0 0 (mainW cA h) (Zmain) X) 4 X (xX4_law M p0 p1) (mainW cA h M) 0 [(0, .ref (h 0)), (1, .int p0), (2, .int p1)] []
  unfold xX4_law
  refine g_aload_n C (pc := 0) dX4_law_0 0 rfl ?_
  refine g_iload_n C (pc := 1) dX4_law_1 1 rfl ?_
  refine g_join (α := Int32) (fun v3 => [(0, .ref (h 0)), (1, .int p0), (2, .int p1)]) (fun v3 => [.int v3, .ref (h 0)]) 15 (fun v3 ev3 => ?_) (fun Jv3 => ?_)
  · refine g_iload_n C (pc := 15) dX4_law_15 1 rfl ?_
    refine g_bipush C (pc := 16) dX4_law_16 cB_99 ?_
    refine g_join (α := Int32) (fun v6 => [(0, .ref (h 0)), (1, .int p0), (2, .int p1)]) (fun v6 => [.int v6, .int v3, .ref (h 0)]) 33 (fun v6 ev6 => ?_) (fun Jv6 => ?_)
    · refine g_Vei C (pc := 33) (As := [.int v3, .int v6]) (kX4_outside l D cA T h M v3 v6 hz) (v_id (mainW cA h) M 56 (fun _ => rfl) rfl) gX4_law_X4_outside rfl ⟨rfl, rfl⟩ ⟨Nat.le_of_ble_eq_true rfl, Nat.le_of_ble_eq_true rfl⟩ ⟨Nat.zero_le _, Nat.zero_le _⟩ rfl (Nat.le_of_ble_eq_true rfl) hdV_X4_outside 0 rfl rfl rfl dX4_law_33 (fun z7 ez7 hz_z7 => ?_)
      refine g_nmW (mainW cA h) (fun M8 eM8 => ?_)
      have hz8 : (Zmain M8) := by rw [eM8]; exact hz_z7
      refine g_nmi (fun x9 ex9 => ?_)
      refine g_istore_n C (pc := 36) [(3, .int x9), (0, .ref (h 0)), (1, .int p0), (2, .int p1)] dX4_law_36 (by decide) rfl ?_
      refine g_iload_n C (pc := 37) dX4_law_37 0 rfl ?_
      refine g_if_eq C (pc := 38) 43 dX4_law_38 (by decide) (fun c10 => ?_) (fun c10 => ?_)
      · refine g_aload_n C (pc := 43) dX4_law_43 1 rfl ?_
        refine g_bipush C (pc := 44) dX4_law_44 cB_8 ?_
        refine g_iload_n C (pc := 46) dX4_law_46 2 rfl ?_
        refine g_Ver C (pc := 47) (As := [.int 8, .int p0]) (kX4_freshWith l D cA T h M8 8 p0 hz8) (v_id (mainW cA h) M8 56 (fun _ => rfl) rfl) gX4_law_X4_freshWith rfl ⟨rfl, rfl⟩ ⟨Nat.le_of_ble_eq_true rfl, Nat.le_of_ble_eq_true rfl⟩ ⟨Nat.zero_le _, Nat.zero_le _⟩ rfl (Nat.le_of_ble_eq_true rfl) hdV_X4_freshWith 0 rfl rfl rfl dX4_law_47 (fun M11 eM11 hz_M11 => ?_)
        have hz11 := hz_M11
        refine g_iload_n C (pc := 50) dX4_law_50 3 rfl ?_
        refine g_Vei C (pc := 51) (As := [.int p1]) (kX0_nodsIn l D cA T (sh 25 h) (sh 25 M11) p1 ⟨hz11.2.2.2.2.2.2.2.2.2.2.1, hz11.2.2.2.2.2.2.2.2.2.2.2.1, hz11.2.2.2.2.2.2.2.2.2.2.2.2.1, hz11.2.2.2.2.2.2.2.2.2.2.2.2.2.1, hz11.2.2.2.2.2.2.2.2.2.2.2.2.2.2.1⟩) (v_main_bird_25 cA h M11) gX4_law_X0_nodsIn rfl ⟨rfl, rfl⟩ ⟨Nat.le_of_ble_eq_true rfl, Nat.le_of_ble_eq_true rfl⟩ ⟨Nat.zero_le _, Nat.zero_le _⟩ rfl (Nat.le_of_ble_eq_true rfl) hdV_X0_nodsIn 0 rfl rfl rfl dX4_law_51 (fun z12 ez12 hz_z12 => ?_)
        refine g_nmW (mainW cA h) (fun M13 eM13 => ?_)
        have hz13 : (Zmain M13) := by rw [eM13]; exact ⟨hz11.1, hz11.2.1, hz11.2.2.1, hz11.2.2.2.1, hz11.2.2.2.2.1, hz11.2.2.2.2.2.1, hz11.2.2.2.2.2.2.1, hz11.2.2.2.2.2.2.2.1, hz11.2.2.2.2.2.2.2.2.1, hz11.2.2.2.2.2.2.2.2.2.1, hz_z12.1, hz_z12.2.1, hz_z12.2.2.1, hz_z12.2.2.2.1, hz_z12.2.2.2.2, hz11.2.2.2.2.2.2.2.2.2.2.2.2.2.2.2.1, hz11.2.2.2.2.2.2.2.2.2.2.2.2.2.2.2.2.1, hz11.2.2.2.2.2.2.2.2.2.2.2.2.2.2.2.2.2.1, hz11.2.2.2.2.2.2.2.2.2.2.2.2.2.2.2.2.2.2.1, hz11.2.2.2.2.2.2.2.2.2.2.2.2.2.2.2.2.2.2.2.1, hz11.2.2.2.2.2.2.2.2.2.2.2.2.2.2.2.2.2.2.2.2.1, hz11.2.2.2.2.2.2.2.2.2.2.2.2.2.2.2.2.2.2.2.2.2.1, hz11.2.2.2.2.2.2.2.2.2.2.2.2.2.2.2.2.2.2.2.2.2.2⟩
        exact r_ei C rfl dX4_law_54 hz13
      · refine g_iload_n C (pc := 41) dX4_law_41 0 rfl ?_
        exact r_ei C rfl dX4_law_42 hz8
    · refine g_icmp_gt0 C (pc := 18) 28 dX4_law_18 (by decide) (fun c4 => ?_) (fun c4 => ?_)
      · refine g_iconst C (pc := 28) dX4_law_28 cI_1 ?_
        refine g_goto C (pc := 29) 33 dX4_law_29 (by decide) ?_
        refine g_sub [0, 1, 2] rfl ?_
        exact g_lf (if_pos c4) (Jv6 _ (Eq.symm (if_pos c4)))
      · refine g_iload_n C (pc := 21) dX4_law_21 2 rfl ?_
        refine g_sipush C (pc := 22) dX4_law_22 cS_3000 ?_
        refine g_icmp_le0 C (pc := 25) 32 dX4_law_25 (by decide) (fun c5 => ?_) (fun c5 => ?_)
        · refine g_iconst C (pc := 32) dX4_law_32 cI_0 ?_
          refine g_sub [0, 1, 2] rfl ?_
          exact g_lf ((if_neg c4).trans (if_pos c5)) (Jv6 _ (Eq.symm ((if_neg c4).trans (if_pos c5))))
        · refine g_iconst C (pc := 28) dX4_law_28 cI_1 ?_
          refine g_goto C (pc := 29) 33 dX4_law_29 (by decide) ?_
          refine g_sub [0, 1, 2] rfl ?_
          exact g_lf ((if_neg c4).trans (if_neg c5)) (Jv6 _ (Eq.symm ((if_neg c4).trans (if_neg c5))))
  · refine g_if_lt0 C (pc := 2) 10 dX4_law_2 (by decide) (fun c1 => ?_) (fun c1 => ?_)
    · refine g_iconst C (pc := 10) dX4_law_10 cI_1 ?_
      refine g_goto C (pc := 11) 15 dX4_law_11 (by decide) ?_
      refine g_sub [0, 1, 2] rfl ?_
      exact g_lf (if_pos c1) (Jv3 _ (Eq.symm (if_pos c1)))
    · refine g_iload_n C (pc := 5) dX4_law_5 2 rfl ?_
      refine g_iconst C (pc := 6) dX4_law_6 cI_1 ?_
      refine g_icmp_ge0 C (pc := 7) 14 dX4_law_7 (by decide) (fun c2 => ?_) (fun c2 => ?_)
      · refine g_iconst C (pc := 14) dX4_law_14 cI_0 ?_
        refine g_sub [0, 1, 2] rfl ?_
        exact g_lf ((if_neg c1).trans (if_pos c2)) (Jv3 _ (Eq.symm ((if_neg c1).trans (if_pos c2))))
      · refine g_iconst C (pc := 10) dX4_law_10 cI_1 ?_
        refine g_goto C (pc := 11) 15 dX4_law_11 (by decide) ?_
        refine g_sub [0, 1, 2] rfl ?_
        exact g_lf ((if_neg c1).trans (if_neg c2)) (Jv3 _ (Eq.symm ((if_neg c1).trans (if_neg c2))))

noncomputable def xX4_stops_l35 : Nat → St → Int32 → Int32 → Int32 × St
  | 0, M10, _, _ => (0, M10)
  | k + 1, M10, p0, v9 => if 99 < v9 then (((-9), M10)) else (nm (xX4_freshWith M10 8 v9) fun M12 => nm (xX0_nodsWithin (sh 25 M12) p0) fun z13 => nm (put 25 12 z13.2 M12) fun M14 => if z13.1 = 0 then (nm (v9 + 1 : Int32) fun x16 => xX4_stops_l35 k M14 p0 x16) else ((v9, M14)))
noncomputable def xX4_stops (M : St) (p0 : Int32) : Int32 × St := nm (if 1 ≤ p0 then (0) else (1) : Int32) fun v2 => nm (if p0 ≤ 3000 then (0) else (1) : Int32) fun v4 => nm (xX4_outside M v2 v4) fun z5 => nm (z5.2) fun M6 => nm (z5.1 : Int32) fun x7 => if x7 = 0 then (xX4_stops_l35 (muE 0 99 + 1) M6 p0 0) else ((x7, M6))
set_option maxHeartbeats 4000000 in
set_option maxRecDepth 100000 in
theorem kX4_stops (l : Launch) (D : va_G) (cA : ClassId) (T : Nat × Nat × Nat) (h : Nat → Nat) (M : St) (p0 : Int32) (hz : (Zmain M)) : ∀ sz : Nat, Met l yX4_stops wsX4_stops { frames := 5, cells := 0, slots := 0, locals := 131 } (va_Pc [.ref (h 0), .int p0] (PreW D cA T (mainW cA h M) sz)) (va_Qi (fun r u => (r, u) = (xX4_stops M p0) ∧ (Zmain) u) (fun u => PostW D cA (va_A (mainW cA h M) sz) (mainW cA h u)) (va_A (mainW cA h M) sz)) 0 0 (va_A (mainW cA h M) sz) := by
  refine m_ei (Wf := mainW cA h) (inv := (Zmain)) (cc := cX4_stops) (maxL := 4) (own := RX4) (by decide) rfl rfl (Nat.le_of_ble_eq_true rfl) (fun {p e s m args below meth c} A C X => ?_)
  show G p l e { frames := 5, cells := 0, slots := 0, locals := 131 } s m args below meth c 0 0 D A (Qei below D cA A args s 0 0 (mainW cA h) (Zmain) X) 4 X (xX4_stops M p0) (mainW cA h M) 0 [(0, .ref (h 0)), (1, .int p0)] []
  unfold xX4_stops
  refine g_aload_n C (pc := 0) dX4_stops_0 0 rfl ?_
  refine g_iload_n C (pc := 1) dX4_stops_1 1 rfl ?_
  refine g_iconst C (pc := 2) dX4_stops_2 cI_1 ?_
  refine g_join (α := Int32) (fun v2 => [(0, .ref (h 0)), (1, .int p0)]) (fun v2 => [.int v2, .ref (h 0)]) 11 (fun v2 ev2 => ?_) (fun Jv2 => ?_)
  · refine g_iload_n C (pc := 11) dX4_stops_11 1 rfl ?_
    refine g_sipush C (pc := 12) dX4_stops_12 cS_3000 ?_
    refine g_join (α := Int32) (fun v4 => [(0, .ref (h 0)), (1, .int p0)]) (fun v4 => [.int v4, .int v2, .ref (h 0)]) 23 (fun v4 ev4 => ?_) (fun Jv4 => ?_)
    · refine g_Vei C (pc := 23) (As := [.int v2, .int v4]) (kX4_outside l D cA T h M v2 v4 hz) (v_id (mainW cA h) M 56 (fun _ => rfl) rfl) gX4_stops_X4_outside rfl ⟨rfl, rfl⟩ ⟨Nat.le_of_ble_eq_true rfl, Nat.le_of_ble_eq_true rfl⟩ ⟨Nat.zero_le _, Nat.zero_le _⟩ rfl (Nat.le_of_ble_eq_true rfl) hdV_X4_outside 0 rfl rfl rfl dX4_stops_23 (fun z5 ez5 hz_z5 => ?_)
      refine g_nmW (mainW cA h) (fun M6 eM6 => ?_)
      have hz6 : (Zmain M6) := by rw [eM6]; exact hz_z5
      refine g_nmi (fun x7 ex7 => ?_)
      refine g_istore_n C (pc := 26) [(2, .int x7), (0, .ref (h 0)), (1, .int p0)] dX4_stops_26 (by decide) rfl ?_
      refine g_iload_n C (pc := 27) dX4_stops_27 0 rfl ?_
      refine g_if_eq C (pc := 28) 33 dX4_stops_28 (by decide) (fun c8 => ?_) (fun c8 => ?_)
      · refine g_iconst C (pc := 33) dX4_stops_33 cI_0 ?_
        refine g_istore_n C (pc := 34) [(3, .int 0), (2, .int x7), (0, .ref (h 0)), (1, .int p0)] dX4_stops_34 (by decide) rfl ?_
        have L35 : ∀ (k : Nat) (M10 : St) (v9 : Int32), (Zmain M10) → muE v9 99 < k → G p l e { frames := 5, cells := 0, slots := 0, locals := 131 } s m args below meth c 0 0 D A (Qei below D cA A args s 0 0 (mainW cA h) (Zmain) X) 4 X (xX4_stops_l35 k M10 p0 v9) (mainW cA h M10) 35 [(0, .ref (h 0)), (1, .int p0), (3, .int v9)] [] := by
          intro k
          induction k with
          | zero => intro M10 v9 hz10 hmu; exact absurd hmu (Nat.not_lt_zero _)
          | succ k ih =>
            intro M10 v9 hz10 hmu
            rw [xX4_stops_l35]
            refine g_iload_n C (pc := 35) dX4_stops_35 2 rfl ?_
            refine g_bipush C (pc := 36) dX4_stops_36 cB_99 ?_
            refine g_icmp_gt C (pc := 38) 63 dX4_stops_38 (by decide) (fun c11 => ?_) (fun c11 => ?_)
            · refine g_bipush C (pc := 63) dX4_stops_63 cB_m9 ?_
              exact r_ei C rfl dX4_stops_65 hz10
            · refine g_aload_n C (pc := 41) dX4_stops_41 0 rfl ?_
              refine g_bipush C (pc := 42) dX4_stops_42 cB_8 ?_
              refine g_iload_n C (pc := 44) dX4_stops_44 2 rfl ?_
              refine g_Ver C (pc := 45) (As := [.int 8, .int v9]) (kX4_freshWith l D cA T h M10 8 v9 hz10) (v_id (mainW cA h) M10 56 (fun _ => rfl) rfl) gX4_stops_X4_freshWith rfl ⟨rfl, rfl⟩ ⟨Nat.le_of_ble_eq_true rfl, Nat.le_of_ble_eq_true rfl⟩ ⟨Nat.zero_le _, Nat.zero_le _⟩ rfl (Nat.le_of_ble_eq_true rfl) hdV_X4_freshWith 0 rfl rfl rfl dX4_stops_45 (fun M12 eM12 hz_M12 => ?_)
              have hz12 := hz_M12
              refine g_iload_n C (pc := 48) dX4_stops_48 1 rfl ?_
              refine g_Vei C (pc := 49) (As := [.int p0]) (kX0_nodsWithin l D cA T (sh 25 h) (sh 25 M12) p0 ⟨hz12.2.2.2.2.2.2.2.2.2.2.1, hz12.2.2.2.2.2.2.2.2.2.2.2.1, hz12.2.2.2.2.2.2.2.2.2.2.2.2.1, hz12.2.2.2.2.2.2.2.2.2.2.2.2.2.1, hz12.2.2.2.2.2.2.2.2.2.2.2.2.2.2.1⟩) (v_main_bird_25 cA h M12) gX4_stops_X0_nodsWithin rfl ⟨rfl, rfl⟩ ⟨Nat.le_of_ble_eq_true rfl, Nat.le_of_ble_eq_true rfl⟩ ⟨Nat.zero_le _, Nat.zero_le _⟩ rfl (Nat.le_of_ble_eq_true rfl) hdV_X0_nodsWithin 0 rfl rfl rfl dX4_stops_49 (fun z13 ez13 hz_z13 => ?_)
              refine g_nmW (mainW cA h) (fun M14 eM14 => ?_)
              have hz14 : (Zmain M14) := by rw [eM14]; exact ⟨hz12.1, hz12.2.1, hz12.2.2.1, hz12.2.2.2.1, hz12.2.2.2.2.1, hz12.2.2.2.2.2.1, hz12.2.2.2.2.2.2.1, hz12.2.2.2.2.2.2.2.1, hz12.2.2.2.2.2.2.2.2.1, hz12.2.2.2.2.2.2.2.2.2.1, hz_z13.1, hz_z13.2.1, hz_z13.2.2.1, hz_z13.2.2.2.1, hz_z13.2.2.2.2, hz12.2.2.2.2.2.2.2.2.2.2.2.2.2.2.2.1, hz12.2.2.2.2.2.2.2.2.2.2.2.2.2.2.2.2.1, hz12.2.2.2.2.2.2.2.2.2.2.2.2.2.2.2.2.2.1, hz12.2.2.2.2.2.2.2.2.2.2.2.2.2.2.2.2.2.2.1, hz12.2.2.2.2.2.2.2.2.2.2.2.2.2.2.2.2.2.2.2.1, hz12.2.2.2.2.2.2.2.2.2.2.2.2.2.2.2.2.2.2.2.2.1, hz12.2.2.2.2.2.2.2.2.2.2.2.2.2.2.2.2.2.2.2.2.2.1, hz12.2.2.2.2.2.2.2.2.2.2.2.2.2.2.2.2.2.2.2.2.2.2⟩
              refine g_if_eq C (pc := 52) 57 dX4_stops_52 (by decide) (fun c15 => ?_) (fun c15 => ?_)
              · refine g_iincN C (pc := 57) 1 (fun y => [(3, .int y), (0, .ref (h 0)), (1, .int p0)]) dX4_stops_57 2 rfl cI_1 (by decide) (fun _ => rfl) (fun x16 ex16 => ?_)
                refine g_goto C (pc := 60) 35 dX4_stops_60 (by decide) ?_
                refine g_sub [1, 2, 0] rfl ?_
                exact ih M14 x16 hz14 (by rw [ex16]; exact lp_decE (d := 1) (by decide) (by decide) c11 hmu)
              · refine g_iload_n C (pc := 55) dX4_stops_55 2 rfl ?_
                exact r_ei C rfl dX4_stops_56 hz14
        refine g_sub [2, 3, 0] rfl ?_
        exact L35 _ M6 0 hz6 (Nat.lt_succ_self _)
      · refine g_iload_n C (pc := 31) dX4_stops_31 0 rfl ?_
        exact r_ei C rfl dX4_stops_32 hz6
    · refine g_icmp_le0 C (pc := 15) 22 dX4_stops_15 (by decide) (fun c3 => ?_) (fun c3 => ?_)
      · refine g_iconst C (pc := 22) dX4_stops_22 cI_0 ?_
        refine g_sub [0, 1] rfl ?_
        exact g_lf (if_pos c3) (Jv4 _ (Eq.symm (if_pos c3)))
      · refine g_iconst C (pc := 18) dX4_stops_18 cI_1 ?_
        refine g_goto C (pc := 19) 23 dX4_stops_19 (by decide) ?_
        refine g_sub [0, 1] rfl ?_
        exact g_lf (if_neg c3) (Jv4 _ (Eq.symm (if_neg c3)))
  · refine g_icmp_ge0 C (pc := 3) 10 dX4_stops_3 (by decide) (fun c1 => ?_) (fun c1 => ?_)
    · refine g_iconst C (pc := 10) dX4_stops_10 cI_0 ?_
      refine g_sub [0, 1] rfl ?_
      exact g_lf (if_pos c1) (Jv2 _ (Eq.symm (if_pos c1)))
    · refine g_iconst C (pc := 6) dX4_stops_6 cI_1 ?_
      refine g_goto C (pc := 7) 11 dX4_stops_7 (by decide) ?_
      refine g_sub [0, 1] rfl ?_
      exact g_lf (if_neg c1) (Jv2 _ (Eq.symm (if_neg c1)))

noncomputable def xX4_pegs_j9 (M1 : St) : Int32 × St := nm (xX4_refuse M1 (-2)) fun z2 => nm (z2.2) fun M3 => (z2.1, M3)
noncomputable def xX4_pegs_l52 : Nat → St → Int32 → Int32 → Int32 → Int32 × St
  | 0, M15, _, _, _ => (0, M15)
  | k + 1, M15, p0, p1, v14 => if 99 < v14 then (((-9), M15)) else (nm (if p1 = 0 then (v14) else ((100 - v14)) : Int32) fun v18 => nm (xX4_freshWith M15 1 v18) fun M19 => nm (xX0_nodsWithin (sh 25 M19) p0) fun z20 => nm (put 25 12 z20.2 M19) fun M21 => if z20.1 = 0 then (nm (v14 + 1 : Int32) fun x23 => xX4_pegs_l52 k M21 p0 p1 x23) else ((v18, M21)))
noncomputable def xX4_pegs (M : St) (p0 : Int32) (p1 : Int32) : Int32 × St := if p1 < 0 then (xX4_pegs_j9 M ) else (if p1 ≤ 1 then (nm (if 1 ≤ p0 then (0) else (1) : Int32) fun v7 => nm (if p0 ≤ 1000 then (0) else (1) : Int32) fun v9 => nm (xX4_outside M v7 v9) fun z10 => nm (z10.2) fun M11 => nm (z10.1 : Int32) fun x12 => if x12 = 0 then (xX4_pegs_l52 (muE 1 99 + 1) M11 p0 p1 1) else ((x12, M11))) else (xX4_pegs_j9 M ))
set_option maxHeartbeats 4000000 in
set_option maxRecDepth 100000 in
theorem kX4_pegs (l : Launch) (D : va_G) (cA : ClassId) (T : Nat × Nat × Nat) (h : Nat → Nat) (M : St) (p0 : Int32) (p1 : Int32) (hz : (Zmain M)) : ∀ sz : Nat, Met l yX4_pegs wsX4_pegs { frames := 5, cells := 0, slots := 0, locals := 131 } (va_Pc [.ref (h 0), .int p0, .int p1] (PreW D cA T (mainW cA h M) sz)) (va_Qi (fun r u => (r, u) = (xX4_pegs M p0 p1) ∧ (Zmain) u) (fun u => PostW D cA (va_A (mainW cA h M) sz) (mainW cA h u)) (va_A (mainW cA h M) sz)) 0 0 (va_A (mainW cA h M) sz) := by
  refine m_ei (Wf := mainW cA h) (inv := (Zmain)) (cc := cX4_pegs) (maxL := 6) (own := RX4) (by decide) rfl rfl (Nat.le_of_ble_eq_true rfl) (fun {p e s m args below meth c} A C X => ?_)
  show G p l e { frames := 5, cells := 0, slots := 0, locals := 131 } s m args below meth c 0 0 D A (Qei below D cA A args s 0 0 (mainW cA h) (Zmain) X) 6 X (xX4_pegs M p0 p1) (mainW cA h M) 0 [(0, .ref (h 0)), (1, .int p0), (2, .int p1)] []
  unfold xX4_pegs
  refine g_iload_n C (pc := 0) dX4_pegs_0 2 rfl ?_
  have J9 : ∀ (M1 : St), (Zmain M1) → G p l e { frames := 5, cells := 0, slots := 0, locals := 131 } s m args below meth c 0 0 D A (Qei below D cA A args s 0 0 (mainW cA h) (Zmain) X) 6 X (xX4_pegs_j9 M1 ) (mainW cA h M1) 9 [(0, .ref (h 0))] [] := by
    intro M1 hz1
    unfold xX4_pegs_j9
    refine g_aload_n C (pc := 9) dX4_pegs_9 0 rfl ?_
    refine g_bipush C (pc := 10) dX4_pegs_10 cB_m2 ?_
    refine g_Vei C (pc := 12) (As := [.int (-2)]) (kX4_refuse l D cA T h M1 (-2) hz1) (v_id (mainW cA h) M1 56 (fun _ => rfl) rfl) gX4_pegs_X4_refuse rfl ⟨rfl, rfl⟩ ⟨Nat.le_of_ble_eq_true rfl, Nat.le_of_ble_eq_true rfl⟩ ⟨Nat.zero_le _, Nat.zero_le _⟩ rfl (Nat.le_of_ble_eq_true rfl) hdV_X4_refuse 0 rfl rfl rfl dX4_pegs_12 (fun z2 ez2 hz_z2 => ?_)
    refine g_nmW (mainW cA h) (fun M3 eM3 => ?_)
    have hz3 : (Zmain M3) := by rw [eM3]; exact hz_z2
    exact r_ei C rfl dX4_pegs_15 hz3
  refine g_if_lt C (pc := 1) 9 dX4_pegs_1 (by decide) (fun c4 => ?_) (fun c4 => ?_)
  · refine g_sub [0] rfl ?_
    exact J9 M hz
  · refine g_iload_n C (pc := 4) dX4_pegs_4 2 rfl ?_
    refine g_iconst C (pc := 5) dX4_pegs_5 cI_1 ?_
    refine g_icmp_le C (pc := 6) 16 dX4_pegs_6 (by decide) (fun c5 => ?_) (fun c5 => ?_)
    · refine g_aload_n C (pc := 16) dX4_pegs_16 0 rfl ?_
      refine g_iload_n C (pc := 17) dX4_pegs_17 1 rfl ?_
      refine g_iconst C (pc := 18) dX4_pegs_18 cI_1 ?_
      refine g_join (α := Int32) (fun v7 => [(0, .ref (h 0)), (1, .int p0), (2, .int p1)]) (fun v7 => [.int v7, .ref (h 0)]) 27 (fun v7 ev7 => ?_) (fun Jv7 => ?_)
      · refine g_iload_n C (pc := 27) dX4_pegs_27 1 rfl ?_
        refine g_sipush C (pc := 28) dX4_pegs_28 cS_1000 ?_
        refine g_join (α := Int32) (fun v9 => [(0, .ref (h 0)), (1, .int p0), (2, .int p1)]) (fun v9 => [.int v9, .int v7, .ref (h 0)]) 39 (fun v9 ev9 => ?_) (fun Jv9 => ?_)
        · refine g_Vei C (pc := 39) (As := [.int v7, .int v9]) (kX4_outside l D cA T h M v7 v9 hz) (v_id (mainW cA h) M 56 (fun _ => rfl) rfl) gX4_pegs_X4_outside rfl ⟨rfl, rfl⟩ ⟨Nat.le_of_ble_eq_true rfl, Nat.le_of_ble_eq_true rfl⟩ ⟨Nat.zero_le _, Nat.zero_le _⟩ rfl (Nat.le_of_ble_eq_true rfl) hdV_X4_outside 0 rfl rfl rfl dX4_pegs_39 (fun z10 ez10 hz_z10 => ?_)
          refine g_nmW (mainW cA h) (fun M11 eM11 => ?_)
          have hz11 : (Zmain M11) := by rw [eM11]; exact hz_z10
          refine g_nmi (fun x12 ex12 => ?_)
          refine g_istore_n C (pc := 42) [(3, .int x12), (0, .ref (h 0)), (1, .int p0), (2, .int p1)] dX4_pegs_42 (by decide) rfl ?_
          refine g_iload_n C (pc := 43) dX4_pegs_43 0 rfl ?_
          refine g_if_eq C (pc := 44) 49 dX4_pegs_44 (by decide) (fun c13 => ?_) (fun c13 => ?_)
          · refine g_iconst C (pc := 49) dX4_pegs_49 cI_1 ?_
            refine g_istore C (pc := 50) [(4, .int 1), (3, .int x12), (0, .ref (h 0)), (1, .int p0), (2, .int p1)] dX4_pegs_50 (by decide) rfl ?_
            have L52 : ∀ (k : Nat) (M15 : St) (v14 : Int32), (Zmain M15) → muE v14 99 < k → G p l e { frames := 5, cells := 0, slots := 0, locals := 131 } s m args below meth c 0 0 D A (Qei below D cA A args s 0 0 (mainW cA h) (Zmain) X) 6 X (xX4_pegs_l52 k M15 p0 p1 v14) (mainW cA h M15) 52 [(0, .ref (h 0)), (1, .int p0), (2, .int p1), (4, .int v14)] [] := by
              intro k
              induction k with
              | zero => intro M15 v14 hz15 hmu; exact absurd hmu (Nat.not_lt_zero _)
              | succ k ih =>
                intro M15 v14 hz15 hmu
                rw [xX4_pegs_l52]
                refine g_iload C (pc := 52) dX4_pegs_52 3 rfl ?_
                refine g_bipush C (pc := 54) dX4_pegs_54 cB_99 ?_
                refine g_icmp_gt C (pc := 56) 98 dX4_pegs_56 (by decide) (fun c16 => ?_) (fun c16 => ?_)
                · refine g_bipush C (pc := 98) dX4_pegs_98 cB_m9 ?_
                  exact r_ei C rfl dX4_pegs_100 hz15
                · refine g_iload_n C (pc := 59) dX4_pegs_59 2 rfl ?_
                  refine g_join (α := Int32) (fun v18 => [(0, .ref (h 0)), (1, .int p0), (2, .int p1), (4, .int v14)]) (fun v18 => [.int v18]) 73 (fun v18 ev18 => ?_) (fun Jv18 => ?_)
                  · refine g_istore C (pc := 73) [(5, .int v18), (0, .ref (h 0)), (1, .int p0), (2, .int p1), (4, .int v14)] dX4_pegs_73 (by decide) rfl ?_
                    refine g_aload_n C (pc := 75) dX4_pegs_75 1 rfl ?_
                    refine g_iconst C (pc := 76) dX4_pegs_76 cI_1 ?_
                    refine g_iload C (pc := 77) dX4_pegs_77 0 rfl ?_
                    refine g_Ver C (pc := 79) (As := [.int 1, .int v18]) (kX4_freshWith l D cA T h M15 1 v18 hz15) (v_id (mainW cA h) M15 56 (fun _ => rfl) rfl) gX4_pegs_X4_freshWith rfl ⟨rfl, rfl⟩ ⟨Nat.le_of_ble_eq_true rfl, Nat.le_of_ble_eq_true rfl⟩ ⟨Nat.zero_le _, Nat.zero_le _⟩ rfl (Nat.le_of_ble_eq_true rfl) hdV_X4_freshWith 0 rfl rfl rfl dX4_pegs_79 (fun M19 eM19 hz_M19 => ?_)
                    have hz19 := hz_M19
                    refine g_iload_n C (pc := 82) dX4_pegs_82 2 rfl ?_
                    refine g_Vei C (pc := 83) (As := [.int p0]) (kX0_nodsWithin l D cA T (sh 25 h) (sh 25 M19) p0 ⟨hz19.2.2.2.2.2.2.2.2.2.2.1, hz19.2.2.2.2.2.2.2.2.2.2.2.1, hz19.2.2.2.2.2.2.2.2.2.2.2.2.1, hz19.2.2.2.2.2.2.2.2.2.2.2.2.2.1, hz19.2.2.2.2.2.2.2.2.2.2.2.2.2.2.1⟩) (v_main_bird_25 cA h M19) gX4_pegs_X0_nodsWithin rfl ⟨rfl, rfl⟩ ⟨Nat.le_of_ble_eq_true rfl, Nat.le_of_ble_eq_true rfl⟩ ⟨Nat.zero_le _, Nat.zero_le _⟩ rfl (Nat.le_of_ble_eq_true rfl) hdV_X0_nodsWithin 0 rfl rfl rfl dX4_pegs_83 (fun z20 ez20 hz_z20 => ?_)
                    refine g_nmW (mainW cA h) (fun M21 eM21 => ?_)
                    have hz21 : (Zmain M21) := by rw [eM21]; exact ⟨hz19.1, hz19.2.1, hz19.2.2.1, hz19.2.2.2.1, hz19.2.2.2.2.1, hz19.2.2.2.2.2.1, hz19.2.2.2.2.2.2.1, hz19.2.2.2.2.2.2.2.1, hz19.2.2.2.2.2.2.2.2.1, hz19.2.2.2.2.2.2.2.2.2.1, hz_z20.1, hz_z20.2.1, hz_z20.2.2.1, hz_z20.2.2.2.1, hz_z20.2.2.2.2, hz19.2.2.2.2.2.2.2.2.2.2.2.2.2.2.2.1, hz19.2.2.2.2.2.2.2.2.2.2.2.2.2.2.2.2.1, hz19.2.2.2.2.2.2.2.2.2.2.2.2.2.2.2.2.2.1, hz19.2.2.2.2.2.2.2.2.2.2.2.2.2.2.2.2.2.2.1, hz19.2.2.2.2.2.2.2.2.2.2.2.2.2.2.2.2.2.2.2.1, hz19.2.2.2.2.2.2.2.2.2.2.2.2.2.2.2.2.2.2.2.2.1, hz19.2.2.2.2.2.2.2.2.2.2.2.2.2.2.2.2.2.2.2.2.2.1, hz19.2.2.2.2.2.2.2.2.2.2.2.2.2.2.2.2.2.2.2.2.2.2⟩
                    refine g_if_eq C (pc := 86) 92 dX4_pegs_86 (by decide) (fun c22 => ?_) (fun c22 => ?_)
                    · refine g_iincN C (pc := 92) 1 (fun y => [(4, .int y), (5, .int v18), (0, .ref (h 0)), (1, .int p0), (2, .int p1)]) dX4_pegs_92 4 rfl cI_1 (by decide) (fun _ => rfl) (fun x23 ex23 => ?_)
                      refine g_goto C (pc := 95) 52 dX4_pegs_95 (by decide) ?_
                      refine g_sub [2, 3, 4, 0] rfl ?_
                      exact ih M21 x23 hz21 (by rw [ex23]; exact lp_decE (d := 1) (by decide) (by decide) c16 hmu)
                    · refine g_iload C (pc := 89) dX4_pegs_89 0 rfl ?_
                      exact r_ei C rfl dX4_pegs_91 hz21
                  · refine g_if_ne0 C (pc := 60) 68 dX4_pegs_60 (by decide) (fun c17 => ?_) (fun c17 => ?_)
                    · refine g_bipush C (pc := 68) dX4_pegs_68 cB_100 ?_
                      refine g_iload C (pc := 70) dX4_pegs_70 3 rfl ?_
                      refine g_isub C (pc := 72) dX4_pegs_72 ?_
                      refine g_sub [0, 1, 2, 3] rfl ?_
                      exact g_lf (if_neg c17) (Jv18 _ (Eq.symm (if_neg c17)))
                    · refine g_iload C (pc := 63) dX4_pegs_63 3 rfl ?_
                      refine g_goto C (pc := 65) 73 dX4_pegs_65 (by decide) ?_
                      refine g_sub [0, 1, 2, 3] rfl ?_
                      exact g_lf (if_pos c17) (Jv18 _ (Eq.symm (if_pos c17)))
            refine g_sub [2, 3, 4, 0] rfl ?_
            exact L52 _ M11 1 hz11 (Nat.lt_succ_self _)
          · refine g_iload_n C (pc := 47) dX4_pegs_47 0 rfl ?_
            exact r_ei C rfl dX4_pegs_48 hz11
        · refine g_icmp_le0 C (pc := 31) 38 dX4_pegs_31 (by decide) (fun c8 => ?_) (fun c8 => ?_)
          · refine g_iconst C (pc := 38) dX4_pegs_38 cI_0 ?_
            refine g_sub [0, 1, 2] rfl ?_
            exact g_lf (if_pos c8) (Jv9 _ (Eq.symm (if_pos c8)))
          · refine g_iconst C (pc := 34) dX4_pegs_34 cI_1 ?_
            refine g_goto C (pc := 35) 39 dX4_pegs_35 (by decide) ?_
            refine g_sub [0, 1, 2] rfl ?_
            exact g_lf (if_neg c8) (Jv9 _ (Eq.symm (if_neg c8)))
      · refine g_icmp_ge0 C (pc := 19) 26 dX4_pegs_19 (by decide) (fun c6 => ?_) (fun c6 => ?_)
        · refine g_iconst C (pc := 26) dX4_pegs_26 cI_0 ?_
          refine g_sub [0, 1, 2] rfl ?_
          exact g_lf (if_pos c6) (Jv7 _ (Eq.symm (if_pos c6)))
        · refine g_iconst C (pc := 22) dX4_pegs_22 cI_1 ?_
          refine g_goto C (pc := 23) 27 dX4_pegs_23 (by decide) ?_
          refine g_sub [0, 1, 2] rfl ?_
          exact g_lf (if_neg c6) (Jv7 _ (Eq.symm (if_neg c6)))
    · refine g_sub [0] rfl ?_
      exact J9 M hz

noncomputable def xX4_airsFor_l5 : Nat → St → Int32 → Int32 → Int32 → Int32 → Int32 × St
  | 0, M3, _, _, _, _ => (0, M3)
  | k + 1, M3, p0, p1, v1, v2 => if 90 < v2 then ((v1, M3)) else (nm (xX4_freshWith M3 8 v2) fun M5 => nm (xX0_with (sh 25 M5) 1 p0) fun z6 => nm (put 25 12 z6 M5) fun M7 => nm (xX0_nodsWithin (sh 25 M7) p1) fun z8 => nm (put 25 12 z8.2 M7) fun M9 => if z8.1 = 0 then (nm (v2 + 10 : Int32) fun x11 => xX4_airsFor_l5 k M9 p0 p1 v1 x11) else (nm (v1 + 1 : Int32) fun x12 => nm (v2 + 10 : Int32) fun x13 => xX4_airsFor_l5 k M9 p0 p1 x12 x13))
noncomputable def xX4_airsFor (M : St) (p0 : Int32) (p1 : Int32) : Int32 × St := xX4_airsFor_l5 (muE 0 90 + 1) M p0 p1 0 0
set_option maxHeartbeats 4000000 in
set_option maxRecDepth 100000 in
theorem kX4_airsFor (l : Launch) (D : va_G) (cA : ClassId) (T : Nat × Nat × Nat) (h : Nat → Nat) (M : St) (p0 : Int32) (p1 : Int32) (hz : (Zmain M)) : ∀ sz : Nat, Met l yX4_airsFor wsX4_airsFor { frames := 5, cells := 0, slots := 0, locals := 131 } (va_Pc [.ref (h 0), .int p0, .int p1] (PreW D cA T (mainW cA h M) sz)) (va_Qi (fun r u => (r, u) = (xX4_airsFor M p0 p1) ∧ (Zmain) u) (fun u => PostW D cA (va_A (mainW cA h M) sz) (mainW cA h u)) (va_A (mainW cA h M) sz)) 0 0 (va_A (mainW cA h M) sz) := by
  refine m_ei (Wf := mainW cA h) (inv := (Zmain)) (cc := cX4_airsFor) (maxL := 5) (own := RX4) (by decide) rfl rfl (Nat.le_of_ble_eq_true rfl) (fun {p e s m args below meth c} A C X => ?_)
  show G p l e { frames := 5, cells := 0, slots := 0, locals := 131 } s m args below meth c 0 0 D A (Qei below D cA A args s 0 0 (mainW cA h) (Zmain) X) 5 X (xX4_airsFor M p0 p1) (mainW cA h M) 0 [(0, .ref (h 0)), (1, .int p0), (2, .int p1)] []
  unfold xX4_airsFor
  refine g_iconst C (pc := 0) dX4_airsFor_0 cI_0 ?_
  refine g_istore_n C (pc := 1) [(3, .int 0), (0, .ref (h 0)), (1, .int p0), (2, .int p1)] dX4_airsFor_1 (by decide) rfl ?_
  refine g_iconst C (pc := 2) dX4_airsFor_2 cI_0 ?_
  refine g_istore C (pc := 3) [(4, .int 0), (3, .int 0), (0, .ref (h 0)), (1, .int p0), (2, .int p1)] dX4_airsFor_3 (by decide) rfl ?_
  have L5 : ∀ (k : Nat) (M3 : St) (v1 : Int32) (v2 : Int32), (Zmain M3) → muE v2 90 < k → G p l e { frames := 5, cells := 0, slots := 0, locals := 131 } s m args below meth c 0 0 D A (Qei below D cA A args s 0 0 (mainW cA h) (Zmain) X) 5 X (xX4_airsFor_l5 k M3 p0 p1 v1 v2) (mainW cA h M3) 5 [(0, .ref (h 0)), (1, .int p0), (2, .int p1), (3, .int v1), (4, .int v2)] [] := by
    intro k
    induction k with
    | zero => intro M3 v1 v2 hz3 hmu; exact absurd hmu (Nat.not_lt_zero _)
    | succ k ih =>
      intro M3 v1 v2 hz3 hmu
      rw [xX4_airsFor_l5]
      refine g_iload C (pc := 5) dX4_airsFor_5 4 rfl ?_
      refine g_bipush C (pc := 7) dX4_airsFor_7 cB_90 ?_
      refine g_icmp_gt C (pc := 9) 41 dX4_airsFor_9 (by decide) (fun c4 => ?_) (fun c4 => ?_)
      · refine g_iload_n C (pc := 41) dX4_airsFor_41 3 rfl ?_
        exact r_ei C rfl dX4_airsFor_42 hz3
      · refine g_aload_n C (pc := 12) dX4_airsFor_12 0 rfl ?_
        refine g_bipush C (pc := 13) dX4_airsFor_13 cB_8 ?_
        refine g_iload C (pc := 15) dX4_airsFor_15 4 rfl ?_
        refine g_Ver C (pc := 17) (As := [.int 8, .int v2]) (kX4_freshWith l D cA T h M3 8 v2 hz3) (v_id (mainW cA h) M3 56 (fun _ => rfl) rfl) gX4_airsFor_X4_freshWith rfl ⟨rfl, rfl⟩ ⟨Nat.le_of_ble_eq_true rfl, Nat.le_of_ble_eq_true rfl⟩ ⟨Nat.zero_le _, Nat.zero_le _⟩ rfl (Nat.le_of_ble_eq_true rfl) hdV_X4_freshWith 0 rfl rfl rfl dX4_airsFor_17 (fun M5 eM5 hz_M5 => ?_)
        have hz5 := hz_M5
        refine g_iconst C (pc := 20) dX4_airsFor_20 cI_1 ?_
        refine g_iload_n C (pc := 21) dX4_airsFor_21 1 rfl ?_
        refine g_Ver C (pc := 22) (As := [.int 1, .int p0]) (kX0_with l D cA T (sh 25 h) (sh 25 M5) 1 p0 ⟨hz5.2.2.2.2.2.2.2.2.2.2.1, hz5.2.2.2.2.2.2.2.2.2.2.2.1, hz5.2.2.2.2.2.2.2.2.2.2.2.2.1, hz5.2.2.2.2.2.2.2.2.2.2.2.2.2.1, hz5.2.2.2.2.2.2.2.2.2.2.2.2.2.2.1⟩) (v_main_bird_25 cA h M5) gX4_airsFor_X0_with rfl ⟨rfl, rfl⟩ ⟨Nat.le_of_ble_eq_true rfl, Nat.le_of_ble_eq_true rfl⟩ ⟨Nat.zero_le _, Nat.zero_le _⟩ rfl (Nat.le_of_ble_eq_true rfl) hdV_X0_with 0 rfl rfl rfl dX4_airsFor_22 (fun z6 ez6 hz_z6 => ?_)
        refine g_nmW (mainW cA h) (fun M7 eM7 => ?_)
        have hz7 : (Zmain M7) := by rw [eM7]; exact ⟨hz5.1, hz5.2.1, hz5.2.2.1, hz5.2.2.2.1, hz5.2.2.2.2.1, hz5.2.2.2.2.2.1, hz5.2.2.2.2.2.2.1, hz5.2.2.2.2.2.2.2.1, hz5.2.2.2.2.2.2.2.2.1, hz5.2.2.2.2.2.2.2.2.2.1, hz_z6.1, hz_z6.2.1, hz_z6.2.2.1, hz_z6.2.2.2.1, hz_z6.2.2.2.2, hz5.2.2.2.2.2.2.2.2.2.2.2.2.2.2.2.1, hz5.2.2.2.2.2.2.2.2.2.2.2.2.2.2.2.2.1, hz5.2.2.2.2.2.2.2.2.2.2.2.2.2.2.2.2.2.1, hz5.2.2.2.2.2.2.2.2.2.2.2.2.2.2.2.2.2.2.1, hz5.2.2.2.2.2.2.2.2.2.2.2.2.2.2.2.2.2.2.2.1, hz5.2.2.2.2.2.2.2.2.2.2.2.2.2.2.2.2.2.2.2.2.1, hz5.2.2.2.2.2.2.2.2.2.2.2.2.2.2.2.2.2.2.2.2.2.1, hz5.2.2.2.2.2.2.2.2.2.2.2.2.2.2.2.2.2.2.2.2.2.2⟩
        refine g_iload_n C (pc := 25) dX4_airsFor_25 2 rfl ?_
        refine g_Vei C (pc := 26) (As := [.int p1]) (kX0_nodsWithin l D cA T (sh 25 h) (sh 25 M7) p1 ⟨hz7.2.2.2.2.2.2.2.2.2.2.1, hz7.2.2.2.2.2.2.2.2.2.2.2.1, hz7.2.2.2.2.2.2.2.2.2.2.2.2.1, hz7.2.2.2.2.2.2.2.2.2.2.2.2.2.1, hz7.2.2.2.2.2.2.2.2.2.2.2.2.2.2.1⟩) (v_main_bird_25 cA h M7) gX4_airsFor_X0_nodsWithin rfl ⟨rfl, rfl⟩ ⟨Nat.le_of_ble_eq_true rfl, Nat.le_of_ble_eq_true rfl⟩ ⟨Nat.zero_le _, Nat.zero_le _⟩ rfl (Nat.le_of_ble_eq_true rfl) hdV_X0_nodsWithin 0 rfl rfl rfl dX4_airsFor_26 (fun z8 ez8 hz_z8 => ?_)
        refine g_nmW (mainW cA h) (fun M9 eM9 => ?_)
        have hz9 : (Zmain M9) := by rw [eM9]; exact ⟨hz7.1, hz7.2.1, hz7.2.2.1, hz7.2.2.2.1, hz7.2.2.2.2.1, hz7.2.2.2.2.2.1, hz7.2.2.2.2.2.2.1, hz7.2.2.2.2.2.2.2.1, hz7.2.2.2.2.2.2.2.2.1, hz7.2.2.2.2.2.2.2.2.2.1, hz_z8.1, hz_z8.2.1, hz_z8.2.2.1, hz_z8.2.2.2.1, hz_z8.2.2.2.2, hz7.2.2.2.2.2.2.2.2.2.2.2.2.2.2.2.1, hz7.2.2.2.2.2.2.2.2.2.2.2.2.2.2.2.2.1, hz7.2.2.2.2.2.2.2.2.2.2.2.2.2.2.2.2.2.1, hz7.2.2.2.2.2.2.2.2.2.2.2.2.2.2.2.2.2.2.1, hz7.2.2.2.2.2.2.2.2.2.2.2.2.2.2.2.2.2.2.2.1, hz7.2.2.2.2.2.2.2.2.2.2.2.2.2.2.2.2.2.2.2.2.1, hz7.2.2.2.2.2.2.2.2.2.2.2.2.2.2.2.2.2.2.2.2.2.1, hz7.2.2.2.2.2.2.2.2.2.2.2.2.2.2.2.2.2.2.2.2.2.2⟩
        refine g_if_eq C (pc := 29) 35 dX4_airsFor_29 (by decide) (fun c10 => ?_) (fun c10 => ?_)
        · refine g_iincN C (pc := 35) 10 (fun y => [(4, .int y), (0, .ref (h 0)), (1, .int p0), (2, .int p1), (3, .int v1)]) dX4_airsFor_35 4 rfl cI_10 (by decide) (fun _ => rfl) (fun x11 ex11 => ?_)
          refine g_goto C (pc := 38) 5 dX4_airsFor_38 (by decide) ?_
          refine g_sub [1, 2, 3, 4, 0] rfl ?_
          exact ih M9 v1 x11 hz9 (by rw [ex11]; exact lp_decE (d := 10) (by decide) (by decide) c4 hmu)
        · refine g_iincN C (pc := 32) 1 (fun y => [(3, .int y), (0, .ref (h 0)), (1, .int p0), (2, .int p1), (4, .int v2)]) dX4_airsFor_32 3 rfl cI_1 (by decide) (fun _ => rfl) (fun x12 ex12 => ?_)
          refine g_iincN C (pc := 35) 10 (fun y => [(4, .int y), (3, .int x12), (0, .ref (h 0)), (1, .int p0), (2, .int p1)]) dX4_airsFor_35 4 rfl cI_10 (by decide) (fun _ => rfl) (fun x13 ex13 => ?_)
          refine g_goto C (pc := 38) 5 dX4_airsFor_38 (by decide) ?_
          refine g_sub [2, 3, 4, 1, 0] rfl ?_
          exact ih M9 x12 x13 hz9 (by rw [ex13]; exact lp_decE (d := 10) (by decide) (by decide) c4 hmu)
  refine g_sub [2, 3, 4, 1, 0] rfl ?_
  exact L5 _ M 0 0 hz (Nat.lt_succ_self _)

noncomputable def xX4_widest_l42 : Nat → St → Int32 → Int32 → Int32 → Int32 → Int32 × St
  | 0, M13, _, _, _, _ => (0, M13)
  | k + 1, M13, p0, v10, v11, v12 => if 90 < v12 then ((v10, M13)) else (nm (xX4_airsFor M13 v12 p0) fun z15 => nm (z15.2) fun M16 => nm (z15.1 : Int32) fun x17 => if x17 ≤ v11 then (nm (v12 + 10 : Int32) fun x19 => xX4_widest_l42 k M16 p0 v10 v11 x19) else (nm (v12 + 10 : Int32) fun x20 => xX4_widest_l42 k M16 p0 v12 x17 x20))
noncomputable def xX4_widest (M : St) (p0 : Int32) : Int32 × St := nm (if 1 ≤ p0 then (0) else (1) : Int32) fun v2 => nm (if p0 ≤ 1000 then (0) else (1) : Int32) fun v4 => nm (xX4_outside M v2 v4) fun z5 => nm (z5.2) fun M6 => nm (z5.1 : Int32) fun x7 => if x7 = 0 then (nm ((-1) : Int32) fun x9 => xX4_widest_l42 (muE 10 90 + 1) M6 p0 0 x9 10) else ((x7, M6))
set_option maxHeartbeats 4000000 in
set_option maxRecDepth 100000 in
theorem kX4_widest (l : Launch) (D : va_G) (cA : ClassId) (T : Nat × Nat × Nat) (h : Nat → Nat) (M : St) (p0 : Int32) (hz : (Zmain M)) : ∀ sz : Nat, Met l yX4_widest wsX4_widest { frames := 6, cells := 0, slots := 0, locals := 155 } (va_Pc [.ref (h 0), .int p0] (PreW D cA T (mainW cA h M) sz)) (va_Qi (fun r u => (r, u) = (xX4_widest M p0) ∧ (Zmain) u) (fun u => PostW D cA (va_A (mainW cA h M) sz) (mainW cA h u)) (va_A (mainW cA h M) sz)) 0 0 (va_A (mainW cA h M) sz) := by
  refine m_ei (Wf := mainW cA h) (inv := (Zmain)) (cc := cX4_widest) (maxL := 7) (own := RX4) (by decide) rfl rfl (Nat.le_of_ble_eq_true rfl) (fun {p e s m args below meth c} A C X => ?_)
  show G p l e { frames := 6, cells := 0, slots := 0, locals := 155 } s m args below meth c 0 0 D A (Qei below D cA A args s 0 0 (mainW cA h) (Zmain) X) 7 X (xX4_widest M p0) (mainW cA h M) 0 [(0, .ref (h 0)), (1, .int p0)] []
  unfold xX4_widest
  refine g_aload_n C (pc := 0) dX4_widest_0 0 rfl ?_
  refine g_iload_n C (pc := 1) dX4_widest_1 1 rfl ?_
  refine g_iconst C (pc := 2) dX4_widest_2 cI_1 ?_
  refine g_join (α := Int32) (fun v2 => [(0, .ref (h 0)), (1, .int p0)]) (fun v2 => [.int v2, .ref (h 0)]) 11 (fun v2 ev2 => ?_) (fun Jv2 => ?_)
  · refine g_iload_n C (pc := 11) dX4_widest_11 1 rfl ?_
    refine g_sipush C (pc := 12) dX4_widest_12 cS_1000 ?_
    refine g_join (α := Int32) (fun v4 => [(0, .ref (h 0)), (1, .int p0)]) (fun v4 => [.int v4, .int v2, .ref (h 0)]) 23 (fun v4 ev4 => ?_) (fun Jv4 => ?_)
    · refine g_Vei C (pc := 23) (As := [.int v2, .int v4]) (kX4_outside l D cA T h M v2 v4 hz) (v_id (mainW cA h) M 56 (fun _ => rfl) rfl) gX4_widest_X4_outside rfl ⟨rfl, rfl⟩ ⟨Nat.le_of_ble_eq_true rfl, Nat.le_of_ble_eq_true rfl⟩ ⟨Nat.zero_le _, Nat.zero_le _⟩ rfl (Nat.le_of_ble_eq_true rfl) hdV_X4_outside 0 rfl rfl rfl dX4_widest_23 (fun z5 ez5 hz_z5 => ?_)
      refine g_nmW (mainW cA h) (fun M6 eM6 => ?_)
      have hz6 : (Zmain M6) := by rw [eM6]; exact hz_z5
      refine g_nmi (fun x7 ex7 => ?_)
      refine g_istore_n C (pc := 26) [(2, .int x7), (0, .ref (h 0)), (1, .int p0)] dX4_widest_26 (by decide) rfl ?_
      refine g_iload_n C (pc := 27) dX4_widest_27 0 rfl ?_
      refine g_if_eq C (pc := 28) 33 dX4_widest_28 (by decide) (fun c8 => ?_) (fun c8 => ?_)
      · refine g_iconst C (pc := 33) dX4_widest_33 cI_0 ?_
        refine g_istore_n C (pc := 34) [(3, .int 0), (2, .int x7), (0, .ref (h 0)), (1, .int p0)] dX4_widest_34 (by decide) rfl ?_
        refine g_iconst C (pc := 35) dX4_widest_35 cI_m1 ?_
        refine g_nmi (fun x9 ex9 => ?_)
        refine g_istore C (pc := 36) [(4, .int x9), (3, .int 0), (2, .int x7), (0, .ref (h 0)), (1, .int p0)] dX4_widest_36 (by decide) rfl ?_
        refine g_bipush C (pc := 38) dX4_widest_38 cB_10 ?_
        refine g_istore C (pc := 40) [(5, .int 10), (4, .int x9), (3, .int 0), (2, .int x7), (0, .ref (h 0)), (1, .int p0)] dX4_widest_40 (by decide) rfl ?_
        have L42 : ∀ (k : Nat) (M13 : St) (v10 : Int32) (v11 : Int32) (v12 : Int32), (Zmain M13) → muE v12 90 < k → G p l e { frames := 6, cells := 0, slots := 0, locals := 155 } s m args below meth c 0 0 D A (Qei below D cA A args s 0 0 (mainW cA h) (Zmain) X) 7 X (xX4_widest_l42 k M13 p0 v10 v11 v12) (mainW cA h M13) 42 [(0, .ref (h 0)), (1, .int p0), (3, .int v10), (4, .int v11), (5, .int v12)] [] := by
          intro k
          induction k with
          | zero => intro M13 v10 v11 v12 hz13 hmu; exact absurd hmu (Nat.not_lt_zero _)
          | succ k ih =>
            intro M13 v10 v11 v12 hz13 hmu
            rw [xX4_widest_l42]
            refine g_iload C (pc := 42) dX4_widest_42 4 rfl ?_
            refine g_bipush C (pc := 44) dX4_widest_44 cB_90 ?_
            refine g_icmp_gt C (pc := 46) 78 dX4_widest_46 (by decide) (fun c14 => ?_) (fun c14 => ?_)
            · refine g_iload_n C (pc := 78) dX4_widest_78 2 rfl ?_
              exact r_ei C rfl dX4_widest_79 hz13
            · refine g_aload_n C (pc := 49) dX4_widest_49 0 rfl ?_
              refine g_iload C (pc := 50) dX4_widest_50 4 rfl ?_
              refine g_iload_n C (pc := 52) dX4_widest_52 1 rfl ?_
              refine g_Vei C (pc := 53) (As := [.int v12, .int p0]) (kX4_airsFor l D cA T h M13 v12 p0 hz13) (v_id (mainW cA h) M13 56 (fun _ => rfl) rfl) gX4_widest_X4_airsFor rfl ⟨rfl, rfl⟩ ⟨Nat.le_of_ble_eq_true rfl, Nat.le_of_ble_eq_true rfl⟩ ⟨Nat.zero_le _, Nat.zero_le _⟩ rfl (Nat.le_of_ble_eq_true rfl) hdV_X4_airsFor 0 rfl rfl rfl dX4_widest_53 (fun z15 ez15 hz_z15 => ?_)
              refine g_nmW (mainW cA h) (fun M16 eM16 => ?_)
              have hz16 : (Zmain M16) := by rw [eM16]; exact hz_z15
              refine g_nmi (fun x17 ex17 => ?_)
              refine g_istore C (pc := 56) [(6, .int x17), (0, .ref (h 0)), (1, .int p0), (3, .int v10), (4, .int v11), (5, .int v12)] dX4_widest_56 (by decide) rfl ?_
              refine g_iload C (pc := 58) dX4_widest_58 0 rfl ?_
              refine g_iload C (pc := 60) dX4_widest_60 4 rfl ?_
              refine g_icmp_le C (pc := 62) 72 dX4_widest_62 (by decide) (fun c18 => ?_) (fun c18 => ?_)
              · refine g_iincN C (pc := 72) 10 (fun y => [(5, .int y), (6, .int x17), (0, .ref (h 0)), (1, .int p0), (3, .int v10), (4, .int v11)]) dX4_widest_72 5 rfl cI_10 (by decide) (fun _ => rfl) (fun x19 ex19 => ?_)
                refine g_goto C (pc := 75) 42 dX4_widest_75 (by decide) ?_
                refine g_sub [2, 3, 4, 5, 0] rfl ?_
                exact ih M16 v10 v11 x19 hz16 (by rw [ex19]; exact lp_decE (d := 10) (by decide) (by decide) c14 hmu)
              · refine g_iload C (pc := 65) dX4_widest_65 0 rfl ?_
                refine g_istore C (pc := 67) [(4, .int x17), (6, .int x17), (0, .ref (h 0)), (1, .int p0), (3, .int v10), (5, .int v12)] dX4_widest_67 (by decide) rfl ?_
                refine g_iload C (pc := 69) dX4_widest_69 5 rfl ?_
                refine g_istore_n C (pc := 71) [(3, .int v12), (4, .int x17), (6, .int x17), (0, .ref (h 0)), (1, .int p0), (5, .int v12)] dX4_widest_71 (by decide) rfl ?_
                refine g_iincN C (pc := 72) 10 (fun y => [(5, .int y), (3, .int v12), (4, .int x17), (6, .int x17), (0, .ref (h 0)), (1, .int p0)]) dX4_widest_72 5 rfl cI_10 (by decide) (fun _ => rfl) (fun x20 ex20 => ?_)
                refine g_goto C (pc := 75) 42 dX4_widest_75 (by decide) ?_
                refine g_sub [4, 5, 1, 2, 0] rfl ?_
                exact ih M16 v12 x17 x20 hz16 (by rw [ex20]; exact lp_decE (d := 10) (by decide) (by decide) c14 hmu)
        refine g_sub [4, 5, 2, 1, 0] rfl ?_
        exact L42 _ M6 0 x9 10 hz6 (Nat.lt_succ_self _)
      · refine g_iload_n C (pc := 31) dX4_widest_31 0 rfl ?_
        exact r_ei C rfl dX4_widest_32 hz6
    · refine g_icmp_le0 C (pc := 15) 22 dX4_widest_15 (by decide) (fun c3 => ?_) (fun c3 => ?_)
      · refine g_iconst C (pc := 22) dX4_widest_22 cI_0 ?_
        refine g_sub [0, 1] rfl ?_
        exact g_lf (if_pos c3) (Jv4 _ (Eq.symm (if_pos c3)))
      · refine g_iconst C (pc := 18) dX4_widest_18 cI_1 ?_
        refine g_goto C (pc := 19) 23 dX4_widest_19 (by decide) ?_
        refine g_sub [0, 1] rfl ?_
        exact g_lf (if_neg c3) (Jv4 _ (Eq.symm (if_neg c3)))
  · refine g_icmp_ge0 C (pc := 3) 10 dX4_widest_3 (by decide) (fun c1 => ?_) (fun c1 => ?_)
    · refine g_iconst C (pc := 10) dX4_widest_10 cI_0 ?_
      refine g_sub [0, 1] rfl ?_
      exact g_lf (if_pos c1) (Jv2 _ (Eq.symm (if_pos c1)))
    · refine g_iconst C (pc := 6) dX4_widest_6 cI_1 ?_
      refine g_goto C (pc := 7) 11 dX4_widest_7 (by decide) ?_
      refine g_sub [0, 1] rfl ?_
      exact g_lf (if_neg c1) (Jv2 _ (Eq.symm (if_neg c1)))

noncomputable def xX4_lifts_l41 : Nat → St → Int32 → Int32 → Int32 → Int32 → Int32 × St
  | 0, M13, _, _, _, _ => (0, M13)
  | k + 1, M13, p0, v10, v11, v12 => if 9 < v12 then ((v10, M13)) else (nm (xX4_freshWith M13 5 v12) fun M15 => nm (xX0_nodsIn (sh 25 M15) p0) fun z16 => nm (put 25 12 z16.2 M15) fun M17 => nm ((z16.1 * v12) : Int32) fun x18 => if x18 ≤ v11 then (nm (v12 + 1 : Int32) fun x20 => xX4_lifts_l41 k M17 p0 v10 v11 x20) else (nm (v12 + 1 : Int32) fun x21 => xX4_lifts_l41 k M17 p0 v12 x18 x21))
noncomputable def xX4_lifts (M : St) (p0 : Int32) : Int32 × St := nm (if 1 ≤ p0 then (0) else (1) : Int32) fun v2 => nm (if p0 ≤ 3000 then (0) else (1) : Int32) fun v4 => nm (xX4_outside M v2 v4) fun z5 => nm (z5.2) fun M6 => nm (z5.1 : Int32) fun x7 => if x7 = 0 then (nm ((-1) : Int32) fun x9 => xX4_lifts_l41 (muE 0 9 + 1) M6 p0 0 x9 0) else ((x7, M6))
set_option maxHeartbeats 4000000 in
set_option maxRecDepth 100000 in
theorem kX4_lifts (l : Launch) (D : va_G) (cA : ClassId) (T : Nat × Nat × Nat) (h : Nat → Nat) (M : St) (p0 : Int32) (hz : (Zmain M)) : ∀ sz : Nat, Met l yX4_lifts wsX4_lifts { frames := 5, cells := 0, slots := 0, locals := 131 } (va_Pc [.ref (h 0), .int p0] (PreW D cA T (mainW cA h M) sz)) (va_Qi (fun r u => (r, u) = (xX4_lifts M p0) ∧ (Zmain) u) (fun u => PostW D cA (va_A (mainW cA h M) sz) (mainW cA h u)) (va_A (mainW cA h M) sz)) 0 0 (va_A (mainW cA h M) sz) := by
  refine m_ei (Wf := mainW cA h) (inv := (Zmain)) (cc := cX4_lifts) (maxL := 7) (own := RX4) (by decide) rfl rfl (Nat.le_of_ble_eq_true rfl) (fun {p e s m args below meth c} A C X => ?_)
  show G p l e { frames := 5, cells := 0, slots := 0, locals := 131 } s m args below meth c 0 0 D A (Qei below D cA A args s 0 0 (mainW cA h) (Zmain) X) 7 X (xX4_lifts M p0) (mainW cA h M) 0 [(0, .ref (h 0)), (1, .int p0)] []
  unfold xX4_lifts
  refine g_aload_n C (pc := 0) dX4_lifts_0 0 rfl ?_
  refine g_iload_n C (pc := 1) dX4_lifts_1 1 rfl ?_
  refine g_iconst C (pc := 2) dX4_lifts_2 cI_1 ?_
  refine g_join (α := Int32) (fun v2 => [(0, .ref (h 0)), (1, .int p0)]) (fun v2 => [.int v2, .ref (h 0)]) 11 (fun v2 ev2 => ?_) (fun Jv2 => ?_)
  · refine g_iload_n C (pc := 11) dX4_lifts_11 1 rfl ?_
    refine g_sipush C (pc := 12) dX4_lifts_12 cS_3000 ?_
    refine g_join (α := Int32) (fun v4 => [(0, .ref (h 0)), (1, .int p0)]) (fun v4 => [.int v4, .int v2, .ref (h 0)]) 23 (fun v4 ev4 => ?_) (fun Jv4 => ?_)
    · refine g_Vei C (pc := 23) (As := [.int v2, .int v4]) (kX4_outside l D cA T h M v2 v4 hz) (v_id (mainW cA h) M 56 (fun _ => rfl) rfl) gX4_lifts_X4_outside rfl ⟨rfl, rfl⟩ ⟨Nat.le_of_ble_eq_true rfl, Nat.le_of_ble_eq_true rfl⟩ ⟨Nat.zero_le _, Nat.zero_le _⟩ rfl (Nat.le_of_ble_eq_true rfl) hdV_X4_outside 0 rfl rfl rfl dX4_lifts_23 (fun z5 ez5 hz_z5 => ?_)
      refine g_nmW (mainW cA h) (fun M6 eM6 => ?_)
      have hz6 : (Zmain M6) := by rw [eM6]; exact hz_z5
      refine g_nmi (fun x7 ex7 => ?_)
      refine g_istore_n C (pc := 26) [(2, .int x7), (0, .ref (h 0)), (1, .int p0)] dX4_lifts_26 (by decide) rfl ?_
      refine g_iload_n C (pc := 27) dX4_lifts_27 0 rfl ?_
      refine g_if_eq C (pc := 28) 33 dX4_lifts_28 (by decide) (fun c8 => ?_) (fun c8 => ?_)
      · refine g_iconst C (pc := 33) dX4_lifts_33 cI_0 ?_
        refine g_istore_n C (pc := 34) [(3, .int 0), (2, .int x7), (0, .ref (h 0)), (1, .int p0)] dX4_lifts_34 (by decide) rfl ?_
        refine g_iconst C (pc := 35) dX4_lifts_35 cI_m1 ?_
        refine g_nmi (fun x9 ex9 => ?_)
        refine g_istore C (pc := 36) [(4, .int x9), (3, .int 0), (2, .int x7), (0, .ref (h 0)), (1, .int p0)] dX4_lifts_36 (by decide) rfl ?_
        refine g_iconst C (pc := 38) dX4_lifts_38 cI_0 ?_
        refine g_istore C (pc := 39) [(5, .int 0), (4, .int x9), (3, .int 0), (2, .int x7), (0, .ref (h 0)), (1, .int p0)] dX4_lifts_39 (by decide) rfl ?_
        have L41 : ∀ (k : Nat) (M13 : St) (v10 : Int32) (v11 : Int32) (v12 : Int32), (Zmain M13) → muE v12 9 < k → G p l e { frames := 5, cells := 0, slots := 0, locals := 131 } s m args below meth c 0 0 D A (Qei below D cA A args s 0 0 (mainW cA h) (Zmain) X) 7 X (xX4_lifts_l41 k M13 p0 v10 v11 v12) (mainW cA h M13) 41 [(0, .ref (h 0)), (1, .int p0), (3, .int v10), (4, .int v11), (5, .int v12)] [] := by
          intro k
          induction k with
          | zero => intro M13 v10 v11 v12 hz13 hmu; exact absurd hmu (Nat.not_lt_zero _)
          | succ k ih =>
            intro M13 v10 v11 v12 hz13 hmu
            rw [xX4_lifts_l41]
            refine g_iload C (pc := 41) dX4_lifts_41 4 rfl ?_
            refine g_bipush C (pc := 43) dX4_lifts_43 cB_9 ?_
            refine g_icmp_gt C (pc := 45) 84 dX4_lifts_45 (by decide) (fun c14 => ?_) (fun c14 => ?_)
            · refine g_iload_n C (pc := 84) dX4_lifts_84 2 rfl ?_
              exact r_ei C rfl dX4_lifts_85 hz13
            · refine g_aload_n C (pc := 48) dX4_lifts_48 0 rfl ?_
              refine g_iconst C (pc := 49) dX4_lifts_49 cI_5 ?_
              refine g_iload C (pc := 50) dX4_lifts_50 4 rfl ?_
              refine g_Ver C (pc := 52) (As := [.int 5, .int v12]) (kX4_freshWith l D cA T h M13 5 v12 hz13) (v_id (mainW cA h) M13 56 (fun _ => rfl) rfl) gX4_lifts_X4_freshWith rfl ⟨rfl, rfl⟩ ⟨Nat.le_of_ble_eq_true rfl, Nat.le_of_ble_eq_true rfl⟩ ⟨Nat.zero_le _, Nat.zero_le _⟩ rfl (Nat.le_of_ble_eq_true rfl) hdV_X4_freshWith 0 rfl rfl rfl dX4_lifts_52 (fun M15 eM15 hz_M15 => ?_)
              have hz15 := hz_M15
              refine g_iload_n C (pc := 55) dX4_lifts_55 1 rfl ?_
              refine g_Vei C (pc := 56) (As := [.int p0]) (kX0_nodsIn l D cA T (sh 25 h) (sh 25 M15) p0 ⟨hz15.2.2.2.2.2.2.2.2.2.2.1, hz15.2.2.2.2.2.2.2.2.2.2.2.1, hz15.2.2.2.2.2.2.2.2.2.2.2.2.1, hz15.2.2.2.2.2.2.2.2.2.2.2.2.2.1, hz15.2.2.2.2.2.2.2.2.2.2.2.2.2.2.1⟩) (v_main_bird_25 cA h M15) gX4_lifts_X0_nodsIn rfl ⟨rfl, rfl⟩ ⟨Nat.le_of_ble_eq_true rfl, Nat.le_of_ble_eq_true rfl⟩ ⟨Nat.zero_le _, Nat.zero_le _⟩ rfl (Nat.le_of_ble_eq_true rfl) hdV_X0_nodsIn 0 rfl rfl rfl dX4_lifts_56 (fun z16 ez16 hz_z16 => ?_)
              refine g_nmW (mainW cA h) (fun M17 eM17 => ?_)
              have hz17 : (Zmain M17) := by rw [eM17]; exact ⟨hz15.1, hz15.2.1, hz15.2.2.1, hz15.2.2.2.1, hz15.2.2.2.2.1, hz15.2.2.2.2.2.1, hz15.2.2.2.2.2.2.1, hz15.2.2.2.2.2.2.2.1, hz15.2.2.2.2.2.2.2.2.1, hz15.2.2.2.2.2.2.2.2.2.1, hz_z16.1, hz_z16.2.1, hz_z16.2.2.1, hz_z16.2.2.2.1, hz_z16.2.2.2.2, hz15.2.2.2.2.2.2.2.2.2.2.2.2.2.2.2.1, hz15.2.2.2.2.2.2.2.2.2.2.2.2.2.2.2.2.1, hz15.2.2.2.2.2.2.2.2.2.2.2.2.2.2.2.2.2.1, hz15.2.2.2.2.2.2.2.2.2.2.2.2.2.2.2.2.2.2.1, hz15.2.2.2.2.2.2.2.2.2.2.2.2.2.2.2.2.2.2.2.1, hz15.2.2.2.2.2.2.2.2.2.2.2.2.2.2.2.2.2.2.2.2.1, hz15.2.2.2.2.2.2.2.2.2.2.2.2.2.2.2.2.2.2.2.2.2.1, hz15.2.2.2.2.2.2.2.2.2.2.2.2.2.2.2.2.2.2.2.2.2.2⟩
              refine g_iload C (pc := 59) dX4_lifts_59 4 rfl ?_
              refine g_imul C (pc := 61) dX4_lifts_61 ?_
              refine g_nmi (fun x18 ex18 => ?_)
              refine g_istore C (pc := 62) [(6, .int x18), (0, .ref (h 0)), (1, .int p0), (3, .int v10), (4, .int v11), (5, .int v12)] dX4_lifts_62 (by decide) rfl ?_
              refine g_iload C (pc := 64) dX4_lifts_64 0 rfl ?_
              refine g_iload C (pc := 66) dX4_lifts_66 4 rfl ?_
              refine g_icmp_le C (pc := 68) 78 dX4_lifts_68 (by decide) (fun c19 => ?_) (fun c19 => ?_)
              · refine g_iincN C (pc := 78) 1 (fun y => [(5, .int y), (6, .int x18), (0, .ref (h 0)), (1, .int p0), (3, .int v10), (4, .int v11)]) dX4_lifts_78 5 rfl cI_1 (by decide) (fun _ => rfl) (fun x20 ex20 => ?_)
                refine g_goto C (pc := 81) 41 dX4_lifts_81 (by decide) ?_
                refine g_sub [2, 3, 4, 5, 0] rfl ?_
                exact ih M17 v10 v11 x20 hz17 (by rw [ex20]; exact lp_decE (d := 1) (by decide) (by decide) c14 hmu)
              · refine g_iload C (pc := 71) dX4_lifts_71 0 rfl ?_
                refine g_istore C (pc := 73) [(4, .int x18), (6, .int x18), (0, .ref (h 0)), (1, .int p0), (3, .int v10), (5, .int v12)] dX4_lifts_73 (by decide) rfl ?_
                refine g_iload C (pc := 75) dX4_lifts_75 5 rfl ?_
                refine g_istore_n C (pc := 77) [(3, .int v12), (4, .int x18), (6, .int x18), (0, .ref (h 0)), (1, .int p0), (5, .int v12)] dX4_lifts_77 (by decide) rfl ?_
                refine g_iincN C (pc := 78) 1 (fun y => [(5, .int y), (3, .int v12), (4, .int x18), (6, .int x18), (0, .ref (h 0)), (1, .int p0)]) dX4_lifts_78 5 rfl cI_1 (by decide) (fun _ => rfl) (fun x21 ex21 => ?_)
                refine g_goto C (pc := 81) 41 dX4_lifts_81 (by decide) ?_
                refine g_sub [4, 5, 1, 2, 0] rfl ?_
                exact ih M17 v12 x18 x21 hz17 (by rw [ex21]; exact lp_decE (d := 1) (by decide) (by decide) c14 hmu)
        refine g_sub [4, 5, 2, 1, 0] rfl ?_
        exact L41 _ M6 0 x9 0 hz6 (Nat.lt_succ_self _)
      · refine g_iload_n C (pc := 31) dX4_lifts_31 0 rfl ?_
        exact r_ei C rfl dX4_lifts_32 hz6
    · refine g_icmp_le0 C (pc := 15) 22 dX4_lifts_15 (by decide) (fun c3 => ?_) (fun c3 => ?_)
      · refine g_iconst C (pc := 22) dX4_lifts_22 cI_0 ?_
        refine g_sub [0, 1] rfl ?_
        exact g_lf (if_pos c3) (Jv4 _ (Eq.symm (if_pos c3)))
      · refine g_iconst C (pc := 18) dX4_lifts_18 cI_1 ?_
        refine g_goto C (pc := 19) 23 dX4_lifts_19 (by decide) ?_
        refine g_sub [0, 1] rfl ?_
        exact g_lf (if_neg c3) (Jv4 _ (Eq.symm (if_neg c3)))
  · refine g_icmp_ge0 C (pc := 3) 10 dX4_lifts_3 (by decide) (fun c1 => ?_) (fun c1 => ?_)
    · refine g_iconst C (pc := 10) dX4_lifts_10 cI_0 ?_
      refine g_sub [0, 1] rfl ?_
      exact g_lf (if_pos c1) (Jv2 _ (Eq.symm (if_pos c1)))
    · refine g_iconst C (pc := 6) dX4_lifts_6 cI_1 ?_
      refine g_goto C (pc := 7) 11 dX4_lifts_7 (by decide) ?_
      refine g_sub [0, 1] rfl ?_
      exact g_lf (if_neg c1) (Jv2 _ (Eq.symm (if_neg c1)))

noncomputable def xX4_under (M : St) : Int32 × St := nm (xX4_freshWith M 12 1) fun M1 => nm (xX0_nodsIn (sh 25 M1) 3000) fun z2 => nm (put 25 12 z2.2 M1) fun M3 => (z2.1, M3)
set_option maxHeartbeats 4000000 in
set_option maxRecDepth 100000 in
theorem kX4_under (l : Launch) (D : va_G) (cA : ClassId) (T : Nat × Nat × Nat) (h : Nat → Nat) (M : St) (hz : (Zmain M)) : ∀ sz : Nat, Met l yX4_under wsX4_under { frames := 5, cells := 0, slots := 0, locals := 131 } (va_Pc [.ref (h 0)] (PreW D cA T (mainW cA h M) sz)) (va_Qi (fun r u => (r, u) = (xX4_under M) ∧ (Zmain) u) (fun u => PostW D cA (va_A (mainW cA h M) sz) (mainW cA h u)) (va_A (mainW cA h M) sz)) 0 0 (va_A (mainW cA h M) sz) := by
  refine m_ei (Wf := mainW cA h) (inv := (Zmain)) (cc := cX4_under) (maxL := 1) (own := RX4) (by decide) rfl rfl (Nat.le_of_ble_eq_true rfl) (fun {p e s m args below meth c} A C X => ?_)
  show G p l e { frames := 5, cells := 0, slots := 0, locals := 131 } s m args below meth c 0 0 D A (Qei below D cA A args s 0 0 (mainW cA h) (Zmain) X) 1 X (xX4_under M) (mainW cA h M) 0 [(0, .ref (h 0))] []
  unfold xX4_under
  refine g_aload_n C (pc := 0) dX4_under_0 0 rfl ?_
  refine g_bipush C (pc := 1) dX4_under_1 cB_12 ?_
  refine g_iconst C (pc := 3) dX4_under_3 cI_1 ?_
  refine g_Ver C (pc := 4) (As := [.int 12, .int 1]) (kX4_freshWith l D cA T h M 12 1 hz) (v_id (mainW cA h) M 56 (fun _ => rfl) rfl) gX4_under_X4_freshWith rfl ⟨rfl, rfl⟩ ⟨Nat.le_of_ble_eq_true rfl, Nat.le_of_ble_eq_true rfl⟩ ⟨Nat.zero_le _, Nat.zero_le _⟩ rfl (Nat.le_of_ble_eq_true rfl) hdV_X4_freshWith 0 rfl rfl rfl dX4_under_4 (fun M1 eM1 hz_M1 => ?_)
  have hz1 := hz_M1
  refine g_sipush C (pc := 7) dX4_under_7 cS_3000 ?_
  refine g_Vei C (pc := 10) (As := [.int 3000]) (kX0_nodsIn l D cA T (sh 25 h) (sh 25 M1) 3000 ⟨hz1.2.2.2.2.2.2.2.2.2.2.1, hz1.2.2.2.2.2.2.2.2.2.2.2.1, hz1.2.2.2.2.2.2.2.2.2.2.2.2.1, hz1.2.2.2.2.2.2.2.2.2.2.2.2.2.1, hz1.2.2.2.2.2.2.2.2.2.2.2.2.2.2.1⟩) (v_main_bird_25 cA h M1) gX4_under_X0_nodsIn rfl ⟨rfl, rfl⟩ ⟨Nat.le_of_ble_eq_true rfl, Nat.le_of_ble_eq_true rfl⟩ ⟨Nat.zero_le _, Nat.zero_le _⟩ rfl (Nat.le_of_ble_eq_true rfl) hdV_X0_nodsIn 0 rfl rfl rfl dX4_under_10 (fun z2 ez2 hz_z2 => ?_)
  refine g_nmW (mainW cA h) (fun M3 eM3 => ?_)
  have hz3 : (Zmain M3) := by rw [eM3]; exact ⟨hz1.1, hz1.2.1, hz1.2.2.1, hz1.2.2.2.1, hz1.2.2.2.2.1, hz1.2.2.2.2.2.1, hz1.2.2.2.2.2.2.1, hz1.2.2.2.2.2.2.2.1, hz1.2.2.2.2.2.2.2.2.1, hz1.2.2.2.2.2.2.2.2.2.1, hz_z2.1, hz_z2.2.1, hz_z2.2.2.1, hz_z2.2.2.2.1, hz_z2.2.2.2.2, hz1.2.2.2.2.2.2.2.2.2.2.2.2.2.2.2.1, hz1.2.2.2.2.2.2.2.2.2.2.2.2.2.2.2.2.1, hz1.2.2.2.2.2.2.2.2.2.2.2.2.2.2.2.2.2.1, hz1.2.2.2.2.2.2.2.2.2.2.2.2.2.2.2.2.2.2.1, hz1.2.2.2.2.2.2.2.2.2.2.2.2.2.2.2.2.2.2.2.1, hz1.2.2.2.2.2.2.2.2.2.2.2.2.2.2.2.2.2.2.2.2.1, hz1.2.2.2.2.2.2.2.2.2.2.2.2.2.2.2.2.2.2.2.2.2.1, hz1.2.2.2.2.2.2.2.2.2.2.2.2.2.2.2.2.2.2.2.2.2.2⟩
  exact r_ei C rfl dX4_under_13 hz3
theorem inX4_without_0 : ∀ w ∈ u_ws RX0 TX0 18, w ∈ wsX4_without := by decide +kernel
noncomputable def xX4_without_l35 : Nat → St → Int32 → Int32 → Int32 × St
  | 0, M10, _, _ => (0, M10)
  | k + 1, M10, p0, v9 => if 9 < v9 then (((-9), M10)) else (nm (xX4_freshWith M10 10 v9) fun M12 => nm (sa M12 25 (up (M12 25) 6 0)) fun M13 => nm (sa M13 25 (up (M13 25) 3 0)) fun M14 => nm (xX0_nodsWithin (sh 25 M14) p0) fun z15 => nm (put 25 12 z15.2 M14) fun M16 => if z15.1 = 0 then (nm (v9 + 1 : Int32) fun x18 => xX4_without_l35 k M16 p0 x18) else ((v9, M16)))
noncomputable def xX4_without (M : St) (p0 : Int32) : Int32 × St := nm (if 1 ≤ p0 then (0) else (1) : Int32) fun v2 => nm (if p0 ≤ 3000 then (0) else (1) : Int32) fun v4 => nm (xX4_outside M v2 v4) fun z5 => nm (z5.2) fun M6 => nm (z5.1 : Int32) fun x7 => if x7 = 0 then (xX4_without_l35 (muE 0 9 + 1) M6 p0 0) else ((x7, M6))
set_option maxHeartbeats 4000000 in
set_option maxRecDepth 100000 in
theorem kX4_without (l : Launch) (D : va_G) (cA : ClassId) (T : Nat × Nat × Nat) (h : Nat → Nat) (M : St) (p0 : Int32) (hz : (Zmain M)) : ∀ sz : Nat, Met l yX4_without wsX4_without { frames := 5, cells := 0, slots := 0, locals := 131 } (va_Pc [.ref (h 0), .int p0] (PreW D cA T (mainW cA h M) sz)) (va_Qi (fun r u => (r, u) = (xX4_without M p0) ∧ (Zmain) u) (fun u => PostW D cA (va_A (mainW cA h M) sz) (mainW cA h u)) (va_A (mainW cA h M) sz)) 0 0 (va_A (mainW cA h M) sz) := by
  refine m_ei (Wf := mainW cA h) (inv := (Zmain)) (cc := cX4_without) (maxL := 5) (own := RX4) (by decide) rfl rfl (Nat.le_of_ble_eq_true rfl) (fun {p e s m args below meth c} A C X => ?_)
  show G p l e { frames := 5, cells := 0, slots := 0, locals := 131 } s m args below meth c 0 0 D A (Qei below D cA A args s 0 0 (mainW cA h) (Zmain) X) 5 X (xX4_without M p0) (mainW cA h M) 0 [(0, .ref (h 0)), (1, .int p0)] []
  unfold xX4_without
  refine g_aload_n C (pc := 0) dX4_without_0 0 rfl ?_
  refine g_iload_n C (pc := 1) dX4_without_1 1 rfl ?_
  refine g_iconst C (pc := 2) dX4_without_2 cI_1 ?_
  refine g_join (α := Int32) (fun v2 => [(0, .ref (h 0)), (1, .int p0)]) (fun v2 => [.int v2, .ref (h 0)]) 11 (fun v2 ev2 => ?_) (fun Jv2 => ?_)
  · refine g_iload_n C (pc := 11) dX4_without_11 1 rfl ?_
    refine g_sipush C (pc := 12) dX4_without_12 cS_3000 ?_
    refine g_join (α := Int32) (fun v4 => [(0, .ref (h 0)), (1, .int p0)]) (fun v4 => [.int v4, .int v2, .ref (h 0)]) 23 (fun v4 ev4 => ?_) (fun Jv4 => ?_)
    · refine g_Vei C (pc := 23) (As := [.int v2, .int v4]) (kX4_outside l D cA T h M v2 v4 hz) (v_id (mainW cA h) M 56 (fun _ => rfl) rfl) gX4_without_X4_outside rfl ⟨rfl, rfl⟩ ⟨Nat.le_of_ble_eq_true rfl, Nat.le_of_ble_eq_true rfl⟩ ⟨Nat.zero_le _, Nat.zero_le _⟩ rfl (Nat.le_of_ble_eq_true rfl) hdV_X4_outside 0 rfl rfl rfl dX4_without_23 (fun z5 ez5 hz_z5 => ?_)
      refine g_nmW (mainW cA h) (fun M6 eM6 => ?_)
      have hz6 : (Zmain M6) := by rw [eM6]; exact hz_z5
      refine g_nmi (fun x7 ex7 => ?_)
      refine g_istore_n C (pc := 26) [(2, .int x7), (0, .ref (h 0)), (1, .int p0)] dX4_without_26 (by decide) rfl ?_
      refine g_iload_n C (pc := 27) dX4_without_27 0 rfl ?_
      refine g_if_eq C (pc := 28) 33 dX4_without_28 (by decide) (fun c8 => ?_) (fun c8 => ?_)
      · refine g_iconst C (pc := 33) dX4_without_33 cI_0 ?_
        refine g_istore_n C (pc := 34) [(3, .int 0), (2, .int x7), (0, .ref (h 0)), (1, .int p0)] dX4_without_34 (by decide) rfl ?_
        have L35 : ∀ (k : Nat) (M10 : St) (v9 : Int32), (Zmain M10) → muE v9 9 < k → G p l e { frames := 5, cells := 0, slots := 0, locals := 131 } s m args below meth c 0 0 D A (Qei below D cA A args s 0 0 (mainW cA h) (Zmain) X) 5 X (xX4_without_l35 k M10 p0 v9) (mainW cA h M10) 35 [(0, .ref (h 0)), (1, .int p0), (3, .int v9)] [] := by
          intro k
          induction k with
          | zero => intro M10 v9 hz10 hmu; exact absurd hmu (Nat.not_lt_zero _)
          | succ k ih =>
            intro M10 v9 hz10 hmu
            rw [xX4_without_l35]
            refine g_iload_n C (pc := 35) dX4_without_35 2 rfl ?_
            refine g_bipush C (pc := 36) dX4_without_36 cB_9 ?_
            refine g_icmp_gt C (pc := 38) 79 dX4_without_38 (by decide) (fun c11 => ?_) (fun c11 => ?_)
            · refine g_bipush C (pc := 79) dX4_without_79 cB_m9 ?_
              exact r_ei C rfl dX4_without_81 hz10
            · refine g_aload_n C (pc := 41) dX4_without_41 0 rfl ?_
              refine g_bipush C (pc := 42) dX4_without_42 cB_10 ?_
              refine g_iload_n C (pc := 44) dX4_without_44 2 rfl ?_
              refine g_Ver C (pc := 45) (As := [.int 10, .int v9]) (kX4_freshWith l D cA T h M10 10 v9 hz10) (v_id (mainW cA h) M10 56 (fun _ => rfl) rfl) gX4_without_X4_freshWith rfl ⟨rfl, rfl⟩ ⟨Nat.le_of_ble_eq_true rfl, Nat.le_of_ble_eq_true rfl⟩ ⟨Nat.zero_le _, Nat.zero_le _⟩ rfl (Nat.le_of_ble_eq_true rfl) hdV_X4_freshWith 0 rfl rfl rfl dX4_without_45 (fun M12 eM12 hz_M12 => ?_)
              have hz12 := hz_M12
              refine g_astore C (pc := 48) [(4, .ref (h 25)), (0, .ref (h 0)), (1, .int p0), (3, .int v9)] dX4_without_48 (by decide) rfl ?_
              refine g_aload C (pc := 50) dX4_without_50 0 rfl ?_
              refine g_iconst C (pc := 52) dX4_without_52 cI_0 ?_
              refine g_put C (pc := 53) tyX0 tyX0_ok nmX0 inX4_without_0 rfl 6 (by decide) rfl (List.mem_of_getElem? (i := 1) rfl) dX4_without_53 rfl rfl 25 rfl (Nat.le_of_ble_eq_true rfl) (mainW cA h) (sa M12 25 (up (M12 25) 6 0)) rfl (fun M13 eM13 => ?_)
              have hz13 : (Zmain M13) := by rw [eM13]; exact hz12
              refine g_aload C (pc := 56) dX4_without_56 0 rfl ?_
              refine g_iconst C (pc := 58) dX4_without_58 cI_0 ?_
              refine g_put C (pc := 59) tyX0 tyX0_ok nmX0 inX4_without_0 rfl 3 (by decide) rfl (List.mem_of_getElem? (i := 2) rfl) dX4_without_59 rfl rfl 25 rfl (Nat.le_of_ble_eq_true rfl) (mainW cA h) (sa M13 25 (up (M13 25) 3 0)) rfl (fun M14 eM14 => ?_)
              have hz14 : (Zmain M14) := by rw [eM14]; exact hz13
              refine g_aload C (pc := 62) dX4_without_62 0 rfl ?_
              refine g_iload_n C (pc := 64) dX4_without_64 2 rfl ?_
              refine g_Vei C (pc := 65) (As := [.int p0]) (kX0_nodsWithin l D cA T (sh 25 h) (sh 25 M14) p0 ⟨hz14.2.2.2.2.2.2.2.2.2.2.1, hz14.2.2.2.2.2.2.2.2.2.2.2.1, hz14.2.2.2.2.2.2.2.2.2.2.2.2.1, hz14.2.2.2.2.2.2.2.2.2.2.2.2.2.1, hz14.2.2.2.2.2.2.2.2.2.2.2.2.2.2.1⟩) (v_main_bird_25 cA h M14) gX4_without_X0_nodsWithin rfl ⟨rfl, rfl⟩ ⟨Nat.le_of_ble_eq_true rfl, Nat.le_of_ble_eq_true rfl⟩ ⟨Nat.zero_le _, Nat.zero_le _⟩ rfl (Nat.le_of_ble_eq_true rfl) hdV_X0_nodsWithin 0 rfl rfl rfl dX4_without_65 (fun z15 ez15 hz_z15 => ?_)
              refine g_nmW (mainW cA h) (fun M16 eM16 => ?_)
              have hz16 : (Zmain M16) := by rw [eM16]; exact ⟨hz14.1, hz14.2.1, hz14.2.2.1, hz14.2.2.2.1, hz14.2.2.2.2.1, hz14.2.2.2.2.2.1, hz14.2.2.2.2.2.2.1, hz14.2.2.2.2.2.2.2.1, hz14.2.2.2.2.2.2.2.2.1, hz14.2.2.2.2.2.2.2.2.2.1, hz_z15.1, hz_z15.2.1, hz_z15.2.2.1, hz_z15.2.2.2.1, hz_z15.2.2.2.2, hz14.2.2.2.2.2.2.2.2.2.2.2.2.2.2.2.1, hz14.2.2.2.2.2.2.2.2.2.2.2.2.2.2.2.2.1, hz14.2.2.2.2.2.2.2.2.2.2.2.2.2.2.2.2.2.1, hz14.2.2.2.2.2.2.2.2.2.2.2.2.2.2.2.2.2.2.1, hz14.2.2.2.2.2.2.2.2.2.2.2.2.2.2.2.2.2.2.2.1, hz14.2.2.2.2.2.2.2.2.2.2.2.2.2.2.2.2.2.2.2.2.1, hz14.2.2.2.2.2.2.2.2.2.2.2.2.2.2.2.2.2.2.2.2.2.1, hz14.2.2.2.2.2.2.2.2.2.2.2.2.2.2.2.2.2.2.2.2.2.2⟩
              refine g_if_eq C (pc := 68) 73 dX4_without_68 (by decide) (fun c17 => ?_) (fun c17 => ?_)
              · refine g_iincN C (pc := 73) 1 (fun y => [(3, .int y), (4, .ref (h 25)), (0, .ref (h 0)), (1, .int p0)]) dX4_without_73 3 rfl cI_1 (by decide) (fun _ => rfl) (fun x18 ex18 => ?_)
                refine g_goto C (pc := 76) 35 dX4_without_76 (by decide) ?_
                refine g_sub [2, 3, 0] rfl ?_
                exact ih M16 x18 hz16 (by rw [ex18]; exact lp_decE (d := 1) (by decide) (by decide) c11 hmu)
              · refine g_iload_n C (pc := 71) dX4_without_71 3 rfl ?_
                exact r_ei C rfl dX4_without_72 hz16
        refine g_sub [2, 3, 0] rfl ?_
        exact L35 _ M6 0 hz6 (Nat.lt_succ_self _)
      · refine g_iload_n C (pc := 31) dX4_without_31 0 rfl ?_
        exact r_ei C rfl dX4_without_32 hz6
    · refine g_icmp_le0 C (pc := 15) 22 dX4_without_15 (by decide) (fun c3 => ?_) (fun c3 => ?_)
      · refine g_iconst C (pc := 22) dX4_without_22 cI_0 ?_
        refine g_sub [0, 1] rfl ?_
        exact g_lf (if_pos c3) (Jv4 _ (Eq.symm (if_pos c3)))
      · refine g_iconst C (pc := 18) dX4_without_18 cI_1 ?_
        refine g_goto C (pc := 19) 23 dX4_without_19 (by decide) ?_
        refine g_sub [0, 1] rfl ?_
        exact g_lf (if_neg c3) (Jv4 _ (Eq.symm (if_neg c3)))
  · refine g_icmp_ge0 C (pc := 3) 10 dX4_without_3 (by decide) (fun c1 => ?_) (fun c1 => ?_)
    · refine g_iconst C (pc := 10) dX4_without_10 cI_0 ?_
      refine g_sub [0, 1] rfl ?_
      exact g_lf (if_pos c1) (Jv2 _ (Eq.symm (if_pos c1)))
    · refine g_iconst C (pc := 6) dX4_without_6 cI_1 ?_
      refine g_goto C (pc := 7) 11 dX4_without_7 (by decide) ?_
      refine g_sub [0, 1] rfl ?_
      exact g_lf (if_neg c1) (Jv2 _ (Eq.symm (if_neg c1)))

noncomputable def xX4_larger (M : St) (p0 : Int32) (p1 : Int32) : Int32 × St := nm (if p0 < 1 then (1) else (if 1 ≤ p1 then (0) else (1)) : Int32) fun v3 => nm (if 4 < p0 then (1) else (if p1 ≤ 3000 then (0) else (1)) : Int32) fun v6 => nm (xX4_outside M v3 v6) fun z7 => nm (z7.2) fun M8 => nm (z7.1 : Int32) fun x9 => if x9 = 0 then (nm (xX4_freshWith M8 6 p0) fun M11 => nm (xX0_nodsIn (sh 25 M11) p1) fun z12 => nm (put 25 12 z12.2 M11) fun M13 => (z12.1, M13)) else ((x9, M8))
set_option maxHeartbeats 4000000 in
set_option maxRecDepth 100000 in
theorem kX4_larger (l : Launch) (D : va_G) (cA : ClassId) (T : Nat × Nat × Nat) (h : Nat → Nat) (M : St) (p0 : Int32) (p1 : Int32) (hz : (Zmain M)) : ∀ sz : Nat, Met l yX4_larger wsX4_larger { frames := 5, cells := 0, slots := 0, locals := 131 } (va_Pc [.ref (h 0), .int p0, .int p1] (PreW D cA T (mainW cA h M) sz)) (va_Qi (fun r u => (r, u) = (xX4_larger M p0 p1) ∧ (Zmain) u) (fun u => PostW D cA (va_A (mainW cA h M) sz) (mainW cA h u)) (va_A (mainW cA h M) sz)) 0 0 (va_A (mainW cA h M) sz) := by
  refine m_ei (Wf := mainW cA h) (inv := (Zmain)) (cc := cX4_larger) (maxL := 4) (own := RX4) (by decide) rfl rfl (Nat.le_of_ble_eq_true rfl) (fun {p e s m args below meth c} A C X => ?_)
  show G p l e { frames := 5, cells := 0, slots := 0, locals := 131 } s m args below meth c 0 0 D A (Qei below D cA A args s 0 0 (mainW cA h) (Zmain) X) 4 X (xX4_larger M p0 p1) (mainW cA h M) 0 [(0, .ref (h 0)), (1, .int p0), (2, .int p1)] []
  unfold xX4_larger
  refine g_aload_n C (pc := 0) dX4_larger_0 0 rfl ?_
  refine g_iload_n C (pc := 1) dX4_larger_1 1 rfl ?_
  refine g_iconst C (pc := 2) dX4_larger_2 cI_1 ?_
  refine g_join (α := Int32) (fun v3 => [(0, .ref (h 0)), (1, .int p0), (2, .int p1)]) (fun v3 => [.int v3, .ref (h 0)]) 16 (fun v3 ev3 => ?_) (fun Jv3 => ?_)
  · refine g_iload_n C (pc := 16) dX4_larger_16 1 rfl ?_
    refine g_iconst C (pc := 17) dX4_larger_17 cI_4 ?_
    refine g_join (α := Int32) (fun v6 => [(0, .ref (h 0)), (1, .int p0), (2, .int p1)]) (fun v6 => [.int v6, .int v3, .ref (h 0)]) 33 (fun v6 ev6 => ?_) (fun Jv6 => ?_)
    · refine g_Vei C (pc := 33) (As := [.int v3, .int v6]) (kX4_outside l D cA T h M v3 v6 hz) (v_id (mainW cA h) M 56 (fun _ => rfl) rfl) gX4_larger_X4_outside rfl ⟨rfl, rfl⟩ ⟨Nat.le_of_ble_eq_true rfl, Nat.le_of_ble_eq_true rfl⟩ ⟨Nat.zero_le _, Nat.zero_le _⟩ rfl (Nat.le_of_ble_eq_true rfl) hdV_X4_outside 0 rfl rfl rfl dX4_larger_33 (fun z7 ez7 hz_z7 => ?_)
      refine g_nmW (mainW cA h) (fun M8 eM8 => ?_)
      have hz8 : (Zmain M8) := by rw [eM8]; exact hz_z7
      refine g_nmi (fun x9 ex9 => ?_)
      refine g_istore_n C (pc := 36) [(3, .int x9), (0, .ref (h 0)), (1, .int p0), (2, .int p1)] dX4_larger_36 (by decide) rfl ?_
      refine g_iload_n C (pc := 37) dX4_larger_37 0 rfl ?_
      refine g_if_eq C (pc := 38) 43 dX4_larger_38 (by decide) (fun c10 => ?_) (fun c10 => ?_)
      · refine g_aload_n C (pc := 43) dX4_larger_43 1 rfl ?_
        refine g_bipush C (pc := 44) dX4_larger_44 cB_6 ?_
        refine g_iload_n C (pc := 46) dX4_larger_46 2 rfl ?_
        refine g_Ver C (pc := 47) (As := [.int 6, .int p0]) (kX4_freshWith l D cA T h M8 6 p0 hz8) (v_id (mainW cA h) M8 56 (fun _ => rfl) rfl) gX4_larger_X4_freshWith rfl ⟨rfl, rfl⟩ ⟨Nat.le_of_ble_eq_true rfl, Nat.le_of_ble_eq_true rfl⟩ ⟨Nat.zero_le _, Nat.zero_le _⟩ rfl (Nat.le_of_ble_eq_true rfl) hdV_X4_freshWith 0 rfl rfl rfl dX4_larger_47 (fun M11 eM11 hz_M11 => ?_)
        have hz11 := hz_M11
        refine g_iload_n C (pc := 50) dX4_larger_50 3 rfl ?_
        refine g_Vei C (pc := 51) (As := [.int p1]) (kX0_nodsIn l D cA T (sh 25 h) (sh 25 M11) p1 ⟨hz11.2.2.2.2.2.2.2.2.2.2.1, hz11.2.2.2.2.2.2.2.2.2.2.2.1, hz11.2.2.2.2.2.2.2.2.2.2.2.2.1, hz11.2.2.2.2.2.2.2.2.2.2.2.2.2.1, hz11.2.2.2.2.2.2.2.2.2.2.2.2.2.2.1⟩) (v_main_bird_25 cA h M11) gX4_larger_X0_nodsIn rfl ⟨rfl, rfl⟩ ⟨Nat.le_of_ble_eq_true rfl, Nat.le_of_ble_eq_true rfl⟩ ⟨Nat.zero_le _, Nat.zero_le _⟩ rfl (Nat.le_of_ble_eq_true rfl) hdV_X0_nodsIn 0 rfl rfl rfl dX4_larger_51 (fun z12 ez12 hz_z12 => ?_)
        refine g_nmW (mainW cA h) (fun M13 eM13 => ?_)
        have hz13 : (Zmain M13) := by rw [eM13]; exact ⟨hz11.1, hz11.2.1, hz11.2.2.1, hz11.2.2.2.1, hz11.2.2.2.2.1, hz11.2.2.2.2.2.1, hz11.2.2.2.2.2.2.1, hz11.2.2.2.2.2.2.2.1, hz11.2.2.2.2.2.2.2.2.1, hz11.2.2.2.2.2.2.2.2.2.1, hz_z12.1, hz_z12.2.1, hz_z12.2.2.1, hz_z12.2.2.2.1, hz_z12.2.2.2.2, hz11.2.2.2.2.2.2.2.2.2.2.2.2.2.2.2.1, hz11.2.2.2.2.2.2.2.2.2.2.2.2.2.2.2.2.1, hz11.2.2.2.2.2.2.2.2.2.2.2.2.2.2.2.2.2.1, hz11.2.2.2.2.2.2.2.2.2.2.2.2.2.2.2.2.2.2.1, hz11.2.2.2.2.2.2.2.2.2.2.2.2.2.2.2.2.2.2.2.1, hz11.2.2.2.2.2.2.2.2.2.2.2.2.2.2.2.2.2.2.2.2.1, hz11.2.2.2.2.2.2.2.2.2.2.2.2.2.2.2.2.2.2.2.2.2.1, hz11.2.2.2.2.2.2.2.2.2.2.2.2.2.2.2.2.2.2.2.2.2.2⟩
        exact r_ei C rfl dX4_larger_54 hz13
      · refine g_iload_n C (pc := 41) dX4_larger_41 0 rfl ?_
        exact r_ei C rfl dX4_larger_42 hz8
    · refine g_icmp_gt0 C (pc := 18) 28 dX4_larger_18 (by decide) (fun c4 => ?_) (fun c4 => ?_)
      · refine g_iconst C (pc := 28) dX4_larger_28 cI_1 ?_
        refine g_goto C (pc := 29) 33 dX4_larger_29 (by decide) ?_
        refine g_sub [0, 1, 2] rfl ?_
        exact g_lf (if_pos c4) (Jv6 _ (Eq.symm (if_pos c4)))
      · refine g_iload_n C (pc := 21) dX4_larger_21 2 rfl ?_
        refine g_sipush C (pc := 22) dX4_larger_22 cS_3000 ?_
        refine g_icmp_le0 C (pc := 25) 32 dX4_larger_25 (by decide) (fun c5 => ?_) (fun c5 => ?_)
        · refine g_iconst C (pc := 32) dX4_larger_32 cI_0 ?_
          refine g_sub [0, 1, 2] rfl ?_
          exact g_lf ((if_neg c4).trans (if_pos c5)) (Jv6 _ (Eq.symm ((if_neg c4).trans (if_pos c5))))
        · refine g_iconst C (pc := 28) dX4_larger_28 cI_1 ?_
          refine g_goto C (pc := 29) 33 dX4_larger_29 (by decide) ?_
          refine g_sub [0, 1, 2] rfl ?_
          exact g_lf ((if_neg c4).trans (if_neg c5)) (Jv6 _ (Eq.symm ((if_neg c4).trans (if_neg c5))))
  · refine g_icmp_lt0 C (pc := 3) 11 dX4_larger_3 (by decide) (fun c1 => ?_) (fun c1 => ?_)
    · refine g_iconst C (pc := 11) dX4_larger_11 cI_1 ?_
      refine g_goto C (pc := 12) 16 dX4_larger_12 (by decide) ?_
      refine g_sub [0, 1, 2] rfl ?_
      exact g_lf (if_pos c1) (Jv3 _ (Eq.symm (if_pos c1)))
    · refine g_iload_n C (pc := 6) dX4_larger_6 2 rfl ?_
      refine g_iconst C (pc := 7) dX4_larger_7 cI_1 ?_
      refine g_icmp_ge0 C (pc := 8) 15 dX4_larger_8 (by decide) (fun c2 => ?_) (fun c2 => ?_)
      · refine g_iconst C (pc := 15) dX4_larger_15 cI_0 ?_
        refine g_sub [0, 1, 2] rfl ?_
        exact g_lf ((if_neg c1).trans (if_pos c2)) (Jv3 _ (Eq.symm ((if_neg c1).trans (if_pos c2))))
      · refine g_iconst C (pc := 11) dX4_larger_11 cI_1 ?_
        refine g_goto C (pc := 12) 16 dX4_larger_12 (by decide) ?_
        refine g_sub [0, 1, 2] rfl ?_
        exact g_lf ((if_neg c1).trans (if_neg c2)) (Jv3 _ (Eq.symm ((if_neg c1).trans (if_neg c2))))
theorem inX4_together_4 : ∀ w ∈ u_ws RX4 TX4 8, w ∈ wsX4_together := by decide +kernel
noncomputable def xX4_together_l61 : Nat → St → Int32 → Int32 × St
  | 0, M14, _ => (0, M14)
  | k + 1, M14, v13 => if 3000 ≤ v13 then (((-9), M14)) else (nm (xX0_nodsIn (sh 25 M14) 1) fun z16 => nm (put 25 12 z16.2 M14) fun M17 => nm (z16.1 : Int32) fun x18 => nm (xX0_nodsIn (sh 37 M17) 1) fun z19 => nm (put 37 12 z19.2 M17) fun M20 => nm (z19.1 : Int32) fun x21 => if x18 ≤ 0 then (nm (v13 + 1 : Int32) fun x23 => xX4_together_l61 k M20 x23) else (if x21 ≤ 0 then (nm (v13 + 1 : Int32) fun x25 => xX4_together_l61 k M20 x25) else ((v13, M20))))
noncomputable def xX4_together (M : St) (p0 : Int32) : Int32 × St := nm (if 1 ≤ p0 then (0) else (1) : Int32) fun v2 => nm (if p0 ≤ 4 then (0) else (1) : Int32) fun v4 => nm (xX4_outside M v2 v4) fun z5 => nm (z5.2) fun M6 => nm (z5.1 : Int32) fun x7 => if x7 = 0 then (nm (xX0_hatch (sh2 25 12 1 M6) 6 1) fun z9 => nm (put2 25 12 1 12 z9 M6) fun M10 => nm (xX0_hatch (sh2 37 12 1 M10) 6 p0) fun z11 => nm (put2 37 12 1 12 z11 M10) fun M12 => xX4_together_l61 (mu 0 3000 + 1) M12 0) else ((x7, M6))
set_option maxHeartbeats 4000000 in
set_option maxRecDepth 100000 in
theorem kX4_together (l : Launch) (D : va_G) (cA : ClassId) (T : Nat × Nat × Nat) (h : Nat → Nat) (M : St) (p0 : Int32) (hz : (Zmain M)) : ∀ sz : Nat, Met l yX4_together wsX4_together { frames := 5, cells := 0, slots := 0, locals := 115 } (va_Pc [.ref (h 0), .int p0] (PreW D cA T (mainW cA h M) sz)) (va_Qi (fun r u => (r, u) = (xX4_together M p0) ∧ (Zmain) u) (fun u => PostW D cA (va_A (mainW cA h M) sz) (mainW cA h u)) (va_A (mainW cA h M) sz)) 0 0 (va_A (mainW cA h M) sz) := by
  refine m_ei (Wf := mainW cA h) (inv := (Zmain)) (cc := cX4_together) (maxL := 6) (own := RX4) (by decide) rfl rfl (Nat.le_of_ble_eq_true rfl) (fun {p e s m args below meth c} A C X => ?_)
  show G p l e { frames := 5, cells := 0, slots := 0, locals := 115 } s m args below meth c 0 0 D A (Qei below D cA A args s 0 0 (mainW cA h) (Zmain) X) 6 X (xX4_together M p0) (mainW cA h M) 0 [(0, .ref (h 0)), (1, .int p0)] []
  unfold xX4_together
  refine g_aload_n C (pc := 0) dX4_together_0 0 rfl ?_
  refine g_iload_n C (pc := 1) dX4_together_1 1 rfl ?_
  refine g_iconst C (pc := 2) dX4_together_2 cI_1 ?_
  refine g_join (α := Int32) (fun v2 => [(0, .ref (h 0)), (1, .int p0)]) (fun v2 => [.int v2, .ref (h 0)]) 11 (fun v2 ev2 => ?_) (fun Jv2 => ?_)
  · refine g_iload_n C (pc := 11) dX4_together_11 1 rfl ?_
    refine g_iconst C (pc := 12) dX4_together_12 cI_4 ?_
    refine g_join (α := Int32) (fun v4 => [(0, .ref (h 0)), (1, .int p0)]) (fun v4 => [.int v4, .int v2, .ref (h 0)]) 21 (fun v4 ev4 => ?_) (fun Jv4 => ?_)
    · refine g_Vei C (pc := 21) (As := [.int v2, .int v4]) (kX4_outside l D cA T h M v2 v4 hz) (v_id (mainW cA h) M 56 (fun _ => rfl) rfl) gX4_together_X4_outside rfl ⟨rfl, rfl⟩ ⟨Nat.le_of_ble_eq_true rfl, Nat.le_of_ble_eq_true rfl⟩ ⟨Nat.zero_le _, Nat.zero_le _⟩ rfl (Nat.le_of_ble_eq_true rfl) hdV_X4_outside 0 rfl rfl rfl dX4_together_21 (fun z5 ez5 hz_z5 => ?_)
      refine g_nmW (mainW cA h) (fun M6 eM6 => ?_)
      have hz6 : (Zmain M6) := by rw [eM6]; exact hz_z5
      refine g_nmi (fun x7 ex7 => ?_)
      refine g_istore_n C (pc := 24) [(2, .int x7), (0, .ref (h 0)), (1, .int p0)] dX4_together_24 (by decide) rfl ?_
      refine g_iload_n C (pc := 25) dX4_together_25 0 rfl ?_
      refine g_if_eq C (pc := 26) 31 dX4_together_26 (by decide) (fun c8 => ?_) (fun c8 => ?_)
      · refine g_aload_n C (pc := 31) dX4_together_31 1 rfl ?_
        refine g_get C (pc := 32) inX4_together_4 rfl 2 (by decide) (List.mem_of_getElem? (i := 1) rfl) dX4_together_32 0 rfl (.ref (h 25)) rfl ?_
        refine g_aload_n C (pc := 35) dX4_together_35 1 rfl ?_
        refine g_get C (pc := 36) inX4_together_4 rfl 0 (by decide) (List.mem_of_getElem? (i := 2) rfl) dX4_together_36 0 rfl (.ref (h 1)) rfl ?_
        refine g_bipush C (pc := 39) dX4_together_39 cB_6 ?_
        refine g_iconst C (pc := 41) dX4_together_41 cI_1 ?_
        refine g_Vev C (pc := 42) (As := [.ref (h 1), .int 6, .int 1]) (kX0_hatch l D cA T (sh2 25 12 1 h) (sh2 25 12 1 M6) 6 1 ⟨hz6.2.2.2.2.2.2.2.2.2.2.1, hz6.2.2.2.2.2.2.2.2.2.2.2.1, hz6.2.2.2.2.2.2.2.2.2.2.2.2.1, hz6.2.2.2.2.2.2.2.2.2.2.2.2.2.1, hz6.2.2.2.2.2.2.2.2.2.2.2.2.2.2.1, hz6.1, hz6.2.1, hz6.2.2.1, hz6.2.2.2.1, hz6.2.2.2.2.1⟩) (v_main_bird2_25_1 cA h M6) gX4_together_X0_hatch rfl ⟨rfl, rfl⟩ ⟨Nat.le_of_ble_eq_true rfl, Nat.le_of_ble_eq_true rfl⟩ ⟨Nat.zero_le _, Nat.zero_le _⟩ rfl (Nat.le_of_ble_eq_true rfl) hdV_X0_hatch 0 rfl rfl rfl dX4_together_42 (fun z9 ez9 hz_z9 => ?_)
        refine g_nmW (mainW cA h) (fun M10 eM10 => ?_)
        have hz10 : (Zmain M10) := by rw [eM10]; exact ⟨hz_z9.2.2.2.2.2.1, hz_z9.2.2.2.2.2.2.1, hz_z9.2.2.2.2.2.2.2.1, hz_z9.2.2.2.2.2.2.2.2.1, hz_z9.2.2.2.2.2.2.2.2.2, hz6.2.2.2.2.2.1, hz6.2.2.2.2.2.2.1, hz6.2.2.2.2.2.2.2.1, hz6.2.2.2.2.2.2.2.2.1, hz6.2.2.2.2.2.2.2.2.2.1, hz_z9.1, hz_z9.2.1, hz_z9.2.2.1, hz_z9.2.2.2.1, hz_z9.2.2.2.2.1, hz6.2.2.2.2.2.2.2.2.2.2.2.2.2.2.2.1, hz6.2.2.2.2.2.2.2.2.2.2.2.2.2.2.2.2.1, hz6.2.2.2.2.2.2.2.2.2.2.2.2.2.2.2.2.2.1, hz6.2.2.2.2.2.2.2.2.2.2.2.2.2.2.2.2.2.2.1, hz6.2.2.2.2.2.2.2.2.2.2.2.2.2.2.2.2.2.2.2.1, hz6.2.2.2.2.2.2.2.2.2.2.2.2.2.2.2.2.2.2.2.2.1, hz6.2.2.2.2.2.2.2.2.2.2.2.2.2.2.2.2.2.2.2.2.2.1, hz6.2.2.2.2.2.2.2.2.2.2.2.2.2.2.2.2.2.2.2.2.2.2⟩
        refine g_aload_n C (pc := 45) dX4_together_45 1 rfl ?_
        refine g_get C (pc := 46) inX4_together_4 rfl 3 (by decide) (List.mem_of_getElem? (i := 3) rfl) dX4_together_46 0 rfl (.ref (h 37)) rfl ?_
        refine g_aload_n C (pc := 49) dX4_together_49 1 rfl ?_
        refine g_get C (pc := 50) inX4_together_4 rfl 0 (by decide) (List.mem_of_getElem? (i := 2) rfl) dX4_together_50 0 rfl (.ref (h 1)) rfl ?_
        refine g_bipush C (pc := 53) dX4_together_53 cB_6 ?_
        refine g_iload_n C (pc := 55) dX4_together_55 2 rfl ?_
        refine g_Vev C (pc := 56) (As := [.ref (h 1), .int 6, .int p0]) (kX0_hatch l D cA T (sh2 37 12 1 h) (sh2 37 12 1 M10) 6 p0 ⟨hz10.2.2.2.2.2.2.2.2.2.2.2.2.2.2.2.1, hz10.2.2.2.2.2.2.2.2.2.2.2.2.2.2.2.2.1, hz10.2.2.2.2.2.2.2.2.2.2.2.2.2.2.2.2.2.1, hz10.2.2.2.2.2.2.2.2.2.2.2.2.2.2.2.2.2.2.1, hz10.2.2.2.2.2.2.2.2.2.2.2.2.2.2.2.2.2.2.2.1, hz10.1, hz10.2.1, hz10.2.2.1, hz10.2.2.2.1, hz10.2.2.2.2.1⟩) (v_main_bird2_37_1 cA h M10) gX4_together_X0_hatch rfl ⟨rfl, rfl⟩ ⟨Nat.le_of_ble_eq_true rfl, Nat.le_of_ble_eq_true rfl⟩ ⟨Nat.zero_le _, Nat.zero_le _⟩ rfl (Nat.le_of_ble_eq_true rfl) hdV_X0_hatch 0 rfl rfl rfl dX4_together_56 (fun z11 ez11 hz_z11 => ?_)
        refine g_nmW (mainW cA h) (fun M12 eM12 => ?_)
        have hz12 : (Zmain M12) := by rw [eM12]; exact ⟨hz_z11.2.2.2.2.2.1, hz_z11.2.2.2.2.2.2.1, hz_z11.2.2.2.2.2.2.2.1, hz_z11.2.2.2.2.2.2.2.2.1, hz_z11.2.2.2.2.2.2.2.2.2, hz10.2.2.2.2.2.1, hz10.2.2.2.2.2.2.1, hz10.2.2.2.2.2.2.2.1, hz10.2.2.2.2.2.2.2.2.1, hz10.2.2.2.2.2.2.2.2.2.1, hz10.2.2.2.2.2.2.2.2.2.2.1, hz10.2.2.2.2.2.2.2.2.2.2.2.1, hz10.2.2.2.2.2.2.2.2.2.2.2.2.1, hz10.2.2.2.2.2.2.2.2.2.2.2.2.2.1, hz10.2.2.2.2.2.2.2.2.2.2.2.2.2.2.1, hz_z11.1, hz_z11.2.1, hz_z11.2.2.1, hz_z11.2.2.2.1, hz_z11.2.2.2.2.1, hz10.2.2.2.2.2.2.2.2.2.2.2.2.2.2.2.2.2.2.2.2.1, hz10.2.2.2.2.2.2.2.2.2.2.2.2.2.2.2.2.2.2.2.2.2.1, hz10.2.2.2.2.2.2.2.2.2.2.2.2.2.2.2.2.2.2.2.2.2.2⟩
        refine g_iconst C (pc := 59) dX4_together_59 cI_0 ?_
        refine g_istore_n C (pc := 60) [(3, .int 0), (2, .int x7), (0, .ref (h 0)), (1, .int p0)] dX4_together_60 (by decide) rfl ?_
        have L61 : ∀ (k : Nat) (M14 : St) (v13 : Int32), (Zmain M14) → mu v13 3000 < k → G p l e { frames := 5, cells := 0, slots := 0, locals := 115 } s m args below meth c 0 0 D A (Qei below D cA A args s 0 0 (mainW cA h) (Zmain) X) 6 X (xX4_together_l61 k M14 v13) (mainW cA h M14) 61 [(0, .ref (h 0)), (3, .int v13)] [] := by
          intro k
          induction k with
          | zero => intro M14 v13 hz14 hmu; exact absurd hmu (Nat.not_lt_zero _)
          | succ k ih =>
            intro M14 v13 hz14 hmu
            rw [xX4_together_l61]
            refine g_iload_n C (pc := 61) dX4_together_61 1 rfl ?_
            refine g_sipush C (pc := 62) dX4_together_62 cS_3000 ?_
            refine g_icmp_ge C (pc := 65) 106 dX4_together_65 (by decide) (fun c15 => ?_) (fun c15 => ?_)
            · refine g_bipush C (pc := 106) dX4_together_106 cB_m9 ?_
              exact r_ei C rfl dX4_together_108 hz14
            · refine g_aload_n C (pc := 68) dX4_together_68 0 rfl ?_
              refine g_get C (pc := 69) inX4_together_4 rfl 2 (by decide) (List.mem_of_getElem? (i := 1) rfl) dX4_together_69 0 rfl (.ref (h 25)) rfl ?_
              refine g_iconst C (pc := 72) dX4_together_72 cI_1 ?_
              refine g_Vei C (pc := 73) (As := [.int 1]) (kX0_nodsIn l D cA T (sh 25 h) (sh 25 M14) 1 ⟨hz14.2.2.2.2.2.2.2.2.2.2.1, hz14.2.2.2.2.2.2.2.2.2.2.2.1, hz14.2.2.2.2.2.2.2.2.2.2.2.2.1, hz14.2.2.2.2.2.2.2.2.2.2.2.2.2.1, hz14.2.2.2.2.2.2.2.2.2.2.2.2.2.2.1⟩) (v_main_bird_25 cA h M14) gX4_together_X0_nodsIn rfl ⟨rfl, rfl⟩ ⟨Nat.le_of_ble_eq_true rfl, Nat.le_of_ble_eq_true rfl⟩ ⟨Nat.zero_le _, Nat.zero_le _⟩ rfl (Nat.le_of_ble_eq_true rfl) hdV_X0_nodsIn 0 rfl rfl rfl dX4_together_73 (fun z16 ez16 hz_z16 => ?_)
              refine g_nmW (mainW cA h) (fun M17 eM17 => ?_)
              have hz17 : (Zmain M17) := by rw [eM17]; exact ⟨hz14.1, hz14.2.1, hz14.2.2.1, hz14.2.2.2.1, hz14.2.2.2.2.1, hz14.2.2.2.2.2.1, hz14.2.2.2.2.2.2.1, hz14.2.2.2.2.2.2.2.1, hz14.2.2.2.2.2.2.2.2.1, hz14.2.2.2.2.2.2.2.2.2.1, hz_z16.1, hz_z16.2.1, hz_z16.2.2.1, hz_z16.2.2.2.1, hz_z16.2.2.2.2, hz14.2.2.2.2.2.2.2.2.2.2.2.2.2.2.2.1, hz14.2.2.2.2.2.2.2.2.2.2.2.2.2.2.2.2.1, hz14.2.2.2.2.2.2.2.2.2.2.2.2.2.2.2.2.2.1, hz14.2.2.2.2.2.2.2.2.2.2.2.2.2.2.2.2.2.2.1, hz14.2.2.2.2.2.2.2.2.2.2.2.2.2.2.2.2.2.2.2.1, hz14.2.2.2.2.2.2.2.2.2.2.2.2.2.2.2.2.2.2.2.2.1, hz14.2.2.2.2.2.2.2.2.2.2.2.2.2.2.2.2.2.2.2.2.2.1, hz14.2.2.2.2.2.2.2.2.2.2.2.2.2.2.2.2.2.2.2.2.2.2⟩
              refine g_nmi (fun x18 ex18 => ?_)
              refine g_istore C (pc := 76) [(4, .int x18), (0, .ref (h 0)), (3, .int v13)] dX4_together_76 (by decide) rfl ?_
              refine g_aload_n C (pc := 78) dX4_together_78 1 rfl ?_
              refine g_get C (pc := 79) inX4_together_4 rfl 3 (by decide) (List.mem_of_getElem? (i := 3) rfl) dX4_together_79 0 rfl (.ref (h 37)) rfl ?_
              refine g_iconst C (pc := 82) dX4_together_82 cI_1 ?_
              refine g_Vei C (pc := 83) (As := [.int 1]) (kX0_nodsIn l D cA T (sh 37 h) (sh 37 M17) 1 ⟨hz17.2.2.2.2.2.2.2.2.2.2.2.2.2.2.2.1, hz17.2.2.2.2.2.2.2.2.2.2.2.2.2.2.2.2.1, hz17.2.2.2.2.2.2.2.2.2.2.2.2.2.2.2.2.2.1, hz17.2.2.2.2.2.2.2.2.2.2.2.2.2.2.2.2.2.2.1, hz17.2.2.2.2.2.2.2.2.2.2.2.2.2.2.2.2.2.2.2.1⟩) (v_main_bird_37 cA h M17) gX4_together_X0_nodsIn rfl ⟨rfl, rfl⟩ ⟨Nat.le_of_ble_eq_true rfl, Nat.le_of_ble_eq_true rfl⟩ ⟨Nat.zero_le _, Nat.zero_le _⟩ rfl (Nat.le_of_ble_eq_true rfl) hdV_X0_nodsIn 0 rfl rfl rfl dX4_together_83 (fun z19 ez19 hz_z19 => ?_)
              refine g_nmW (mainW cA h) (fun M20 eM20 => ?_)
              have hz20 : (Zmain M20) := by rw [eM20]; exact ⟨hz17.1, hz17.2.1, hz17.2.2.1, hz17.2.2.2.1, hz17.2.2.2.2.1, hz17.2.2.2.2.2.1, hz17.2.2.2.2.2.2.1, hz17.2.2.2.2.2.2.2.1, hz17.2.2.2.2.2.2.2.2.1, hz17.2.2.2.2.2.2.2.2.2.1, hz17.2.2.2.2.2.2.2.2.2.2.1, hz17.2.2.2.2.2.2.2.2.2.2.2.1, hz17.2.2.2.2.2.2.2.2.2.2.2.2.1, hz17.2.2.2.2.2.2.2.2.2.2.2.2.2.1, hz17.2.2.2.2.2.2.2.2.2.2.2.2.2.2.1, hz_z19.1, hz_z19.2.1, hz_z19.2.2.1, hz_z19.2.2.2.1, hz_z19.2.2.2.2, hz17.2.2.2.2.2.2.2.2.2.2.2.2.2.2.2.2.2.2.2.2.1, hz17.2.2.2.2.2.2.2.2.2.2.2.2.2.2.2.2.2.2.2.2.2.1, hz17.2.2.2.2.2.2.2.2.2.2.2.2.2.2.2.2.2.2.2.2.2.2⟩
              refine g_nmi (fun x21 ex21 => ?_)
              refine g_istore C (pc := 86) [(5, .int x21), (4, .int x18), (0, .ref (h 0)), (3, .int v13)] dX4_together_86 (by decide) rfl ?_
              refine g_iload C (pc := 88) dX4_together_88 1 rfl ?_
              refine g_if_le C (pc := 90) 100 dX4_together_90 (by decide) (fun c22 => ?_) (fun c22 => ?_)
              · refine g_iincN C (pc := 100) 1 (fun y => [(3, .int y), (5, .int x21), (4, .int x18), (0, .ref (h 0))]) dX4_together_100 3 rfl cI_1 (by decide) (fun _ => rfl) (fun x23 ex23 => ?_)
                refine g_goto C (pc := 103) 61 dX4_together_103 (by decide) ?_
                refine g_sub [3, 0] rfl ?_
                exact ih M20 x23 hz20 (by rw [ex23]; exact lp_dec c15 hmu)
              · refine g_iload C (pc := 93) dX4_together_93 0 rfl ?_
                refine g_if_le C (pc := 95) 100 dX4_together_95 (by decide) (fun c24 => ?_) (fun c24 => ?_)
                · refine g_iincN C (pc := 100) 1 (fun y => [(3, .int y), (5, .int x21), (4, .int x18), (0, .ref (h 0))]) dX4_together_100 3 rfl cI_1 (by decide) (fun _ => rfl) (fun x25 ex25 => ?_)
                  refine g_goto C (pc := 103) 61 dX4_together_103 (by decide) ?_
                  refine g_sub [3, 0] rfl ?_
                  exact ih M20 x25 hz20 (by rw [ex25]; exact lp_dec c15 hmu)
                · refine g_iload_n C (pc := 98) dX4_together_98 3 rfl ?_
                  exact r_ei C rfl dX4_together_99 hz20
        refine g_sub [2, 0] rfl ?_
        exact L61 _ M12 0 hz12 (Nat.lt_succ_self _)
      · refine g_iload_n C (pc := 29) dX4_together_29 0 rfl ?_
        exact r_ei C rfl dX4_together_30 hz6
    · refine g_icmp_le0 C (pc := 13) 20 dX4_together_13 (by decide) (fun c3 => ?_) (fun c3 => ?_)
      · refine g_iconst C (pc := 20) dX4_together_20 cI_0 ?_
        refine g_sub [0, 1] rfl ?_
        exact g_lf (if_pos c3) (Jv4 _ (Eq.symm (if_pos c3)))
      · refine g_iconst C (pc := 16) dX4_together_16 cI_1 ?_
        refine g_goto C (pc := 17) 21 dX4_together_17 (by decide) ?_
        refine g_sub [0, 1] rfl ?_
        exact g_lf (if_neg c3) (Jv4 _ (Eq.symm (if_neg c3)))
  · refine g_icmp_ge0 C (pc := 3) 10 dX4_together_3 (by decide) (fun c1 => ?_) (fun c1 => ?_)
    · refine g_iconst C (pc := 10) dX4_together_10 cI_0 ?_
      refine g_sub [0, 1] rfl ?_
      exact g_lf (if_pos c1) (Jv2 _ (Eq.symm (if_pos c1)))
    · refine g_iconst C (pc := 6) dX4_together_6 cI_1 ?_
      refine g_goto C (pc := 7) 11 dX4_together_7 (by decide) ?_
      refine g_sub [0, 1] rfl ?_
      exact g_lf (if_neg c1) (Jv2 _ (Eq.symm (if_neg c1)))
theorem inX4_drinks_0 : ∀ w ∈ u_ws RX0 TX0 18, w ∈ wsX4_drinks := by decide +kernel
theorem inX4_drinks_4 : ∀ w ∈ u_ws RX4 TX4 8, w ∈ wsX4_drinks := by decide +kernel
noncomputable def xX4_drinks (M : St) (p0 : Int32) : Int32 × St := nm (if 1 ≤ p0 then (0) else (1) : Int32) fun v2 => nm (if p0 ≤ 3000 then (0) else (1) : Int32) fun v4 => nm (xX4_outside M v2 v4) fun z5 => nm (z5.2) fun M6 => nm (z5.1 : Int32) fun x7 => if x7 = 0 then (nm (xX0_become (sh2 25 12 1 M6)) fun z9 => nm (put2 25 12 1 12 z9 M6) fun M10 => nm (xX0_nodsIn (sh 25 M10) p0) fun z11 => nm (put 25 12 z11.2 M10) fun M12 => ((M12 1 3 - M12 25 3), M12)) else ((x7, M6))
set_option maxHeartbeats 4000000 in
set_option maxRecDepth 100000 in
theorem kX4_drinks (l : Launch) (D : va_G) (cA : ClassId) (T : Nat × Nat × Nat) (h : Nat → Nat) (M : St) (p0 : Int32) (hz : (Zmain M)) : ∀ sz : Nat, Met l yX4_drinks wsX4_drinks { frames := 5, cells := 0, slots := 0, locals := 128 } (va_Pc [.ref (h 0), .int p0] (PreW D cA T (mainW cA h M) sz)) (va_Qi (fun r u => (r, u) = (xX4_drinks M p0) ∧ (Zmain) u) (fun u => PostW D cA (va_A (mainW cA h M) sz) (mainW cA h u)) (va_A (mainW cA h M) sz)) 0 0 (va_A (mainW cA h M) sz) := by
  refine m_ei (Wf := mainW cA h) (inv := (Zmain)) (cc := cX4_drinks) (maxL := 3) (own := RX4) (by decide) rfl rfl (Nat.le_of_ble_eq_true rfl) (fun {p e s m args below meth c} A C X => ?_)
  show G p l e { frames := 5, cells := 0, slots := 0, locals := 128 } s m args below meth c 0 0 D A (Qei below D cA A args s 0 0 (mainW cA h) (Zmain) X) 3 X (xX4_drinks M p0) (mainW cA h M) 0 [(0, .ref (h 0)), (1, .int p0)] []
  unfold xX4_drinks
  refine g_aload_n C (pc := 0) dX4_drinks_0 0 rfl ?_
  refine g_iload_n C (pc := 1) dX4_drinks_1 1 rfl ?_
  refine g_iconst C (pc := 2) dX4_drinks_2 cI_1 ?_
  refine g_join (α := Int32) (fun v2 => [(0, .ref (h 0)), (1, .int p0)]) (fun v2 => [.int v2, .ref (h 0)]) 11 (fun v2 ev2 => ?_) (fun Jv2 => ?_)
  · refine g_iload_n C (pc := 11) dX4_drinks_11 1 rfl ?_
    refine g_sipush C (pc := 12) dX4_drinks_12 cS_3000 ?_
    refine g_join (α := Int32) (fun v4 => [(0, .ref (h 0)), (1, .int p0)]) (fun v4 => [.int v4, .int v2, .ref (h 0)]) 23 (fun v4 ev4 => ?_) (fun Jv4 => ?_)
    · refine g_Vei C (pc := 23) (As := [.int v2, .int v4]) (kX4_outside l D cA T h M v2 v4 hz) (v_id (mainW cA h) M 56 (fun _ => rfl) rfl) gX4_drinks_X4_outside rfl ⟨rfl, rfl⟩ ⟨Nat.le_of_ble_eq_true rfl, Nat.le_of_ble_eq_true rfl⟩ ⟨Nat.zero_le _, Nat.zero_le _⟩ rfl (Nat.le_of_ble_eq_true rfl) hdV_X4_outside 0 rfl rfl rfl dX4_drinks_23 (fun z5 ez5 hz_z5 => ?_)
      refine g_nmW (mainW cA h) (fun M6 eM6 => ?_)
      have hz6 : (Zmain M6) := by rw [eM6]; exact hz_z5
      refine g_nmi (fun x7 ex7 => ?_)
      refine g_istore_n C (pc := 26) [(2, .int x7), (0, .ref (h 0)), (1, .int p0)] dX4_drinks_26 (by decide) rfl ?_
      refine g_iload_n C (pc := 27) dX4_drinks_27 0 rfl ?_
      refine g_if_eq C (pc := 28) 33 dX4_drinks_28 (by decide) (fun c8 => ?_) (fun c8 => ?_)
      · refine g_aload_n C (pc := 33) dX4_drinks_33 1 rfl ?_
        refine g_get C (pc := 34) inX4_drinks_4 rfl 2 (by decide) (List.mem_of_getElem? (i := 1) rfl) dX4_drinks_34 0 rfl (.ref (h 25)) rfl ?_
        refine g_aload_n C (pc := 37) dX4_drinks_37 1 rfl ?_
        refine g_get C (pc := 38) inX4_drinks_4 rfl 0 (by decide) (List.mem_of_getElem? (i := 2) rfl) dX4_drinks_38 0 rfl (.ref (h 1)) rfl ?_
        refine g_Vev C (pc := 41) (As := [.ref (h 1)]) (kX0_become l D cA T (sh2 25 12 1 h) (sh2 25 12 1 M6) ⟨hz6.2.2.2.2.2.2.2.2.2.2.1, hz6.2.2.2.2.2.2.2.2.2.2.2.1, hz6.2.2.2.2.2.2.2.2.2.2.2.2.1, hz6.2.2.2.2.2.2.2.2.2.2.2.2.2.1, hz6.2.2.2.2.2.2.2.2.2.2.2.2.2.2.1, hz6.1, hz6.2.1, hz6.2.2.1, hz6.2.2.2.1, hz6.2.2.2.2.1⟩) (v_main_bird2_25_1 cA h M6) gX4_drinks_X0_become rfl ⟨rfl, rfl⟩ ⟨Nat.le_of_ble_eq_true rfl, Nat.le_of_ble_eq_true rfl⟩ ⟨Nat.zero_le _, Nat.zero_le _⟩ rfl (Nat.le_of_ble_eq_true rfl) hdV_X0_become 0 rfl rfl rfl dX4_drinks_41 (fun z9 ez9 hz_z9 => ?_)
        refine g_nmW (mainW cA h) (fun M10 eM10 => ?_)
        have hz10 : (Zmain M10) := by rw [eM10]; exact ⟨hz_z9.2.2.2.2.2.1, hz_z9.2.2.2.2.2.2.1, hz_z9.2.2.2.2.2.2.2.1, hz_z9.2.2.2.2.2.2.2.2.1, hz_z9.2.2.2.2.2.2.2.2.2, hz6.2.2.2.2.2.1, hz6.2.2.2.2.2.2.1, hz6.2.2.2.2.2.2.2.1, hz6.2.2.2.2.2.2.2.2.1, hz6.2.2.2.2.2.2.2.2.2.1, hz_z9.1, hz_z9.2.1, hz_z9.2.2.1, hz_z9.2.2.2.1, hz_z9.2.2.2.2.1, hz6.2.2.2.2.2.2.2.2.2.2.2.2.2.2.2.1, hz6.2.2.2.2.2.2.2.2.2.2.2.2.2.2.2.2.1, hz6.2.2.2.2.2.2.2.2.2.2.2.2.2.2.2.2.2.1, hz6.2.2.2.2.2.2.2.2.2.2.2.2.2.2.2.2.2.2.1, hz6.2.2.2.2.2.2.2.2.2.2.2.2.2.2.2.2.2.2.2.1, hz6.2.2.2.2.2.2.2.2.2.2.2.2.2.2.2.2.2.2.2.2.1, hz6.2.2.2.2.2.2.2.2.2.2.2.2.2.2.2.2.2.2.2.2.2.1, hz6.2.2.2.2.2.2.2.2.2.2.2.2.2.2.2.2.2.2.2.2.2.2⟩
        refine g_aload_n C (pc := 44) dX4_drinks_44 1 rfl ?_
        refine g_get C (pc := 45) inX4_drinks_4 rfl 2 (by decide) (List.mem_of_getElem? (i := 1) rfl) dX4_drinks_45 0 rfl (.ref (h 25)) rfl ?_
        refine g_iload_n C (pc := 48) dX4_drinks_48 2 rfl ?_
        refine g_Vei C (pc := 49) (As := [.int p0]) (kX0_nodsIn l D cA T (sh 25 h) (sh 25 M10) p0 ⟨hz10.2.2.2.2.2.2.2.2.2.2.1, hz10.2.2.2.2.2.2.2.2.2.2.2.1, hz10.2.2.2.2.2.2.2.2.2.2.2.2.1, hz10.2.2.2.2.2.2.2.2.2.2.2.2.2.1, hz10.2.2.2.2.2.2.2.2.2.2.2.2.2.2.1⟩) (v_main_bird_25 cA h M10) gX4_drinks_X0_nodsIn rfl ⟨rfl, rfl⟩ ⟨Nat.le_of_ble_eq_true rfl, Nat.le_of_ble_eq_true rfl⟩ ⟨Nat.zero_le _, Nat.zero_le _⟩ rfl (Nat.le_of_ble_eq_true rfl) hdV_X0_nodsIn 0 rfl rfl rfl dX4_drinks_49 (fun z11 ez11 hz_z11 => ?_)
        refine g_nmW (mainW cA h) (fun M12 eM12 => ?_)
        have hz12 : (Zmain M12) := by rw [eM12]; exact ⟨hz10.1, hz10.2.1, hz10.2.2.1, hz10.2.2.2.1, hz10.2.2.2.2.1, hz10.2.2.2.2.2.1, hz10.2.2.2.2.2.2.1, hz10.2.2.2.2.2.2.2.1, hz10.2.2.2.2.2.2.2.2.1, hz10.2.2.2.2.2.2.2.2.2.1, hz_z11.1, hz_z11.2.1, hz_z11.2.2.1, hz_z11.2.2.2.1, hz_z11.2.2.2.2, hz10.2.2.2.2.2.2.2.2.2.2.2.2.2.2.2.1, hz10.2.2.2.2.2.2.2.2.2.2.2.2.2.2.2.2.1, hz10.2.2.2.2.2.2.2.2.2.2.2.2.2.2.2.2.2.1, hz10.2.2.2.2.2.2.2.2.2.2.2.2.2.2.2.2.2.2.1, hz10.2.2.2.2.2.2.2.2.2.2.2.2.2.2.2.2.2.2.2.1, hz10.2.2.2.2.2.2.2.2.2.2.2.2.2.2.2.2.2.2.2.2.1, hz10.2.2.2.2.2.2.2.2.2.2.2.2.2.2.2.2.2.2.2.2.2.1, hz10.2.2.2.2.2.2.2.2.2.2.2.2.2.2.2.2.2.2.2.2.2.2⟩
        refine g_pop C (pc := 52) dX4_drinks_52 rfl ?_
        refine g_aload_n C (pc := 53) dX4_drinks_53 1 rfl ?_
        refine g_get C (pc := 54) inX4_drinks_4 rfl 0 (by decide) (List.mem_of_getElem? (i := 2) rfl) dX4_drinks_54 0 rfl (.ref (h 1)) rfl ?_
        refine g_get C (pc := 57) inX4_drinks_0 rfl 3 (by decide) (List.mem_of_getElem? (i := 3) rfl) dX4_drinks_57 1 rfl (.int (M12 1 3)) rfl ?_
        refine g_aload_n C (pc := 60) dX4_drinks_60 1 rfl ?_
        refine g_get C (pc := 61) inX4_drinks_4 rfl 2 (by decide) (List.mem_of_getElem? (i := 1) rfl) dX4_drinks_61 0 rfl (.ref (h 25)) rfl ?_
        refine g_get C (pc := 64) inX4_drinks_0 rfl 3 (by decide) (List.mem_of_getElem? (i := 3) rfl) dX4_drinks_64 25 rfl (.int (M12 25 3)) rfl ?_
        refine g_isub C (pc := 67) dX4_drinks_67 ?_
        exact r_ei C rfl dX4_drinks_68 hz12
      · refine g_iload_n C (pc := 31) dX4_drinks_31 0 rfl ?_
        exact r_ei C rfl dX4_drinks_32 hz6
    · refine g_icmp_le0 C (pc := 15) 22 dX4_drinks_15 (by decide) (fun c3 => ?_) (fun c3 => ?_)
      · refine g_iconst C (pc := 22) dX4_drinks_22 cI_0 ?_
        refine g_sub [0, 1] rfl ?_
        exact g_lf (if_pos c3) (Jv4 _ (Eq.symm (if_pos c3)))
      · refine g_iconst C (pc := 18) dX4_drinks_18 cI_1 ?_
        refine g_goto C (pc := 19) 23 dX4_drinks_19 (by decide) ?_
        refine g_sub [0, 1] rfl ?_
        exact g_lf (if_neg c3) (Jv4 _ (Eq.symm (if_neg c3)))
  · refine g_icmp_ge0 C (pc := 3) 10 dX4_drinks_3 (by decide) (fun c1 => ?_) (fun c1 => ?_)
    · refine g_iconst C (pc := 10) dX4_drinks_10 cI_0 ?_
      refine g_sub [0, 1] rfl ?_
      exact g_lf (if_pos c1) (Jv2 _ (Eq.symm (if_pos c1)))
    · refine g_iconst C (pc := 6) dX4_drinks_6 cI_1 ?_
      refine g_goto C (pc := 7) 11 dX4_drinks_7 (by decide) ?_
      refine g_sub [0, 1] rfl ?_
      exact g_lf (if_neg c1) (Jv2 _ (Eq.symm (if_neg c1)))
theorem inX4_pairsThatNod_0 : ∀ w ∈ u_ws RX0 TX0 18, w ∈ wsX4_pairsThatNod := by decide +kernel
theorem inX4_pairsThatNod_4 : ∀ w ∈ u_ws RX4 TX4 8, w ∈ wsX4_pairsThatNod := by decide +kernel
noncomputable def xX4_pairsThatNod_l16 : Nat → St → Int32 → Int32 → Int32 → Int32 → Int32 → St × Int32
  | 0, M12, _, _, _, _, _ => (M12, 0)
  | k + 1, M12, p0, p1, v10, v3, v11 => if p1 < v11 then ((M12, v10)) else (nm (((xX1_at 15 (sh 2 M12) 1) + v3) : Int32) fun x14 => nm (((xX1_at 15 (sh 2 M12) 2) + v11) : Int32) fun x15 => if (xX4_isInRange 1 x14) = 0 then (nm (v11 + 1 : Int32) fun x17 => xX4_pairsThatNod_l16 k M12 p0 p1 v10 v3 x17) else (if (xX4_isInRange 2 x15) = 0 then (nm (v11 + 1 : Int32) fun x19 => xX4_pairsThatNod_l16 k M12 p0 p1 v10 v3 x19) else (nm (xX4_freshWith M12 1 x14) fun M20 => nm (xX0_with (sh 25 M20) 2 x15) fun z21 => nm (put 25 12 z21 M20) fun M22 => nm (xX0_nodsWithin (sh 25 M22) p0) fun z23 => nm (put 25 12 z23.2 M22) fun M24 => if z23.1 = 0 then (nm (v11 + 1 : Int32) fun x26 => xX4_pairsThatNod_l16 k M24 p0 p1 v10 v3 x26) else (nm (v10 + 1 : Int32) fun x27 => nm (v11 + 1 : Int32) fun x28 => xX4_pairsThatNod_l16 k M24 p0 p1 x27 v3 x28))))
noncomputable def xX4_pairsThatNod_l6 : Nat → St → Int32 → Int32 → Int32 → Int32 → Int32 × St
  | 0, M4, _, _, _, _ => (0, M4)
  | k + 1, M4, p0, p1, v2, v3 => if p1 < v3 then ((v2, M4)) else (nm ((-p1) : Int32) fun x6 => nm (xX4_pairsThatNod_l16 (muE x6 p1 + 1) M4 p0 p1 v2 v3 x6 : St × Int32) fun w7 => nm (w7.1) fun M8 => nm (v3 + 1 : Int32) fun x9 => xX4_pairsThatNod_l6 k M8 p0 p1 (w7.2) x9)
noncomputable def xX4_pairsThatNod (M : St) (p0 : Int32) (p1 : Int32) : Int32 × St := nm ((-p1) : Int32) fun x1 => xX4_pairsThatNod_l6 (muE x1 p1 + 1) M p0 p1 0 x1
set_option maxHeartbeats 4000000 in
set_option maxRecDepth 100000 in
theorem kX4_pairsThatNod (l : Launch) (D : va_G) (cA : ClassId) (T : Nat × Nat × Nat) (h : Nat → Nat) (M : St) (p0 : Int32) (p1 : Int32) (hz : (Zmain M)) (hb : p1.toInt ≤ 5) : ∀ sz : Nat, Met l yX4_pairsThatNod wsX4_pairsThatNod { frames := 5, cells := 0, slots := 0, locals := 131 } (va_Pc [.ref (h 0), .int p0, .int p1] (PreW D cA T (mainW cA h M) sz)) (va_Qi (fun r u => (r, u) = (xX4_pairsThatNod M p0 p1) ∧ (Zmain) u) (fun u => PostW D cA (va_A (mainW cA h M) sz) (mainW cA h u)) (va_A (mainW cA h M) sz)) 0 0 (va_A (mainW cA h M) sz) := by
  refine m_ei (Wf := mainW cA h) (inv := (Zmain)) (cc := cX4_pairsThatNod) (maxL := 8) (own := RX4) (by decide) rfl rfl (Nat.le_of_ble_eq_true rfl) (fun {p e s m args below meth c} A C X => ?_)
  show G p l e { frames := 5, cells := 0, slots := 0, locals := 131 } s m args below meth c 0 0 D A (Qei below D cA A args s 0 0 (mainW cA h) (Zmain) X) 8 X (xX4_pairsThatNod M p0 p1) (mainW cA h M) 0 [(0, .ref (h 0)), (1, .int p0), (2, .int p1)] []
  unfold xX4_pairsThatNod
  refine g_iconst C (pc := 0) dX4_pairsThatNod_0 cI_0 ?_
  refine g_istore_n C (pc := 1) [(3, .int 0), (0, .ref (h 0)), (1, .int p0), (2, .int p1)] dX4_pairsThatNod_1 (by decide) rfl ?_
  refine g_iload_n C (pc := 2) dX4_pairsThatNod_2 3 rfl ?_
  refine g_ineg C (pc := 3) dX4_pairsThatNod_3 ?_
  refine g_nmi (fun x1 ex1 => ?_)
  refine g_istore C (pc := 4) [(4, .int x1), (3, .int 0), (0, .ref (h 0)), (1, .int p0), (2, .int p1)] dX4_pairsThatNod_4 (by decide) rfl ?_
  have L6 : ∀ (k : Nat) (M4 : St) (v2 : Int32) (v3 : Int32), (Zmain M4) → muE v3 p1 < k → G p l e { frames := 5, cells := 0, slots := 0, locals := 131 } s m args below meth c 0 0 D A (Qei below D cA A args s 0 0 (mainW cA h) (Zmain) X) 8 X (xX4_pairsThatNod_l6 k M4 p0 p1 v2 v3) (mainW cA h M4) 6 [(0, .ref (h 0)), (1, .int p0), (2, .int p1), (3, .int v2), (4, .int v3)] [] := by
    intro k
    induction k with
    | zero => intro M4 v2 v3 hz4 hmu; exact absurd hmu (Nat.not_lt_zero _)
    | succ k ih =>
      intro M4 v2 v3 hz4 hmu
      rw [xX4_pairsThatNod_l6]
      refine g_iload C (pc := 6) dX4_pairsThatNod_6 4 rfl ?_
      refine g_iload_n C (pc := 8) dX4_pairsThatNod_8 2 rfl ?_
      refine g_icmp_gt C (pc := 9) 107 dX4_pairsThatNod_9 (by decide) (fun c5 => ?_) (fun c5 => ?_)
      · refine g_iload_n C (pc := 107) dX4_pairsThatNod_107 3 rfl ?_
        exact r_ei C rfl dX4_pairsThatNod_108 hz4
      · refine g_iload_n C (pc := 12) dX4_pairsThatNod_12 2 rfl ?_
        refine g_ineg C (pc := 13) dX4_pairsThatNod_13 ?_
        refine g_nmi (fun x6 ex6 => ?_)
        refine g_istore C (pc := 14) [(5, .int x6), (0, .ref (h 0)), (1, .int p0), (2, .int p1), (3, .int v2), (4, .int v3)] dX4_pairsThatNod_14 (by decide) rfl ?_
        refine g_inner (σ := St × Int32) (fun w7 : St × Int32 => (mainW cA h w7.1)) (fun w7 => [(0, .ref (h 0)), (1, .int p0), (2, .int p1), (3, .int (w7.2)), (4, .int v3)]) 101 (fun w7 : St × Int32 => (Zmain w7.1)) (fun w7 ew7 hw7 => ?_) (fun X7 Jw7 => ?_)
        · refine g_nmW (mainW cA h) (fun M8 eM8 => ?_)
          have hz8 : (Zmain M8) := by rw [eM8]; exact hw7
          refine g_iincN C (pc := 101) 1 (fun y => [(4, .int y), (0, .ref (h 0)), (1, .int p0), (2, .int p1), (3, .int (w7.2))]) dX4_pairsThatNod_101 4 rfl cI_1 (by decide) (fun _ => rfl) (fun x9 ex9 => ?_)
          refine g_goto C (pc := 104) 6 dX4_pairsThatNod_104 (by decide) ?_
          refine g_sub [1, 2, 3, 4, 0] rfl ?_
          exact ih M8 (w7.2) x9 hz8 (by rw [ex9]; exact lp_decE (d := 1) (by decide) (by5 hb) c5 hmu)
        · have L16 : ∀ (k : Nat) (M12 : St) (v10 : Int32) (v11 : Int32), (Zmain M12) → muE v11 p1 < k → G p l e { frames := 5, cells := 0, slots := 0, locals := 131 } s m args below meth c 0 0 D A (Qei below D cA A args s 0 0 (mainW cA h) (Zmain) X) 8 X7 (xX4_pairsThatNod_l16 k M12 p0 p1 v10 v3 v11) (mainW cA h M12) 16 [(0, .ref (h 0)), (1, .int p0), (2, .int p1), (3, .int v10), (4, .int v3), (5, .int v11)] [] := by
            intro k
            induction k with
            | zero => intro M12 v10 v11 hz12 hmu; exact absurd hmu (Nat.not_lt_zero _)
            | succ k ih =>
              intro M12 v10 v11 hz12 hmu
              rw [xX4_pairsThatNod_l16]
              refine g_iload C (pc := 16) dX4_pairsThatNod_16 5 rfl ?_
              refine g_iload_n C (pc := 18) dX4_pairsThatNod_18 2 rfl ?_
              refine g_icmp_gt C (pc := 19) 101 dX4_pairsThatNod_19 (by decide) (fun c13 => ?_) (fun c13 => ?_)
              · refine g_sub [0, 1, 2, 3, 4] rfl ?_
                exact Jw7 (M12, v10) hz12
              · refine g_aload_n C (pc := 22) dX4_pairsThatNod_22 0 rfl ?_
                refine g_get C (pc := 23) inX4_pairsThatNod_4 rfl 0 (by decide) (List.mem_of_getElem? (i := 1) rfl) dX4_pairsThatNod_23 0 rfl (.ref (h 1)) rfl ?_
                refine g_get C (pc := 26) inX4_pairsThatNod_0 rfl 0 (by decide) (List.mem_of_getElem? (i := 2) rfl) dX4_pairsThatNod_26 1 rfl (.ref (h 2)) rfl ?_
                refine g_iconst C (pc := 29) dX4_pairsThatNod_29 cI_1 ?_
                refine g_Vpi C (pc := 30) (As := [.int 1]) (kX1_at l D cA T 15 (sh 2 h) (sh 2 M12) 1 hz12.1) (v_main_cells_2 cA h M12) gX4_pairsThatNod_X1_at rfl ⟨rfl, rfl⟩ ⟨Nat.le_of_ble_eq_true rfl, Nat.le_of_ble_eq_true rfl⟩ ⟨Nat.zero_le _, Nat.zero_le _⟩ rfl (Nat.le_of_ble_eq_true rfl) hdV_X1_at 0 rfl rfl rfl dX4_pairsThatNod_30 ?_
                refine g_iload C (pc := 33) dX4_pairsThatNod_33 4 rfl ?_
                refine g_iadd C (pc := 35) dX4_pairsThatNod_35 ?_
                refine g_nmi (fun x14 ex14 => ?_)
                refine g_istore C (pc := 36) [(6, .int x14), (0, .ref (h 0)), (1, .int p0), (2, .int p1), (3, .int v10), (4, .int v3), (5, .int v11)] dX4_pairsThatNod_36 (by decide) rfl ?_
                refine g_aload_n C (pc := 38) dX4_pairsThatNod_38 1 rfl ?_
                refine g_get C (pc := 39) inX4_pairsThatNod_4 rfl 0 (by decide) (List.mem_of_getElem? (i := 1) rfl) dX4_pairsThatNod_39 0 rfl (.ref (h 1)) rfl ?_
                refine g_get C (pc := 42) inX4_pairsThatNod_0 rfl 0 (by decide) (List.mem_of_getElem? (i := 2) rfl) dX4_pairsThatNod_42 1 rfl (.ref (h 2)) rfl ?_
                refine g_iconst C (pc := 45) dX4_pairsThatNod_45 cI_2 ?_
                refine g_Vpi C (pc := 46) (As := [.int 2]) (kX1_at l D cA T 15 (sh 2 h) (sh 2 M12) 2 hz12.1) (v_main_cells_2 cA h M12) gX4_pairsThatNod_X1_at rfl ⟨rfl, rfl⟩ ⟨Nat.le_of_ble_eq_true rfl, Nat.le_of_ble_eq_true rfl⟩ ⟨Nat.zero_le _, Nat.zero_le _⟩ rfl (Nat.le_of_ble_eq_true rfl) hdV_X1_at 0 rfl rfl rfl dX4_pairsThatNod_46 ?_
                refine g_iload C (pc := 49) dX4_pairsThatNod_49 6 rfl ?_
                refine g_iadd C (pc := 51) dX4_pairsThatNod_51 ?_
                refine g_nmi (fun x15 ex15 => ?_)
                refine g_istore C (pc := 52) [(7, .int x15), (6, .int x14), (0, .ref (h 0)), (1, .int p0), (2, .int p1), (3, .int v10), (4, .int v3), (5, .int v11)] dX4_pairsThatNod_52 (by decide) rfl ?_
                refine g_iconst C (pc := 54) dX4_pairsThatNod_54 cI_1 ?_
                refine g_iload C (pc := 55) dX4_pairsThatNod_55 1 rfl ?_
                refine g_Spi C (pc := 57) (As := [.int 1, .int x14]) (kX4_isInRange l D cA T 1 x14) (v_none (mainW cA h M12) 56 rfl rfl) gX4_pairsThatNod_X4_isInRange rfl ⟨rfl, rfl⟩ ⟨Nat.le_of_ble_eq_true rfl, Nat.le_of_ble_eq_true rfl⟩ ⟨Nat.zero_le _, Nat.zero_le _⟩ rfl (Nat.le_of_ble_eq_true rfl) hdS_X4_isInRange rfl dX4_pairsThatNod_57 ?_
                refine g_if_eq C (pc := 60) 95 dX4_pairsThatNod_60 (by decide) (fun c16 => ?_) (fun c16 => ?_)
                · refine g_iincN C (pc := 95) 1 (fun y => [(5, .int y), (7, .int x15), (6, .int x14), (0, .ref (h 0)), (1, .int p0), (2, .int p1), (3, .int v10), (4, .int v3)]) dX4_pairsThatNod_95 7 rfl cI_1 (by decide) (fun _ => rfl) (fun x17 ex17 => ?_)
                  refine g_goto C (pc := 98) 16 dX4_pairsThatNod_98 (by decide) ?_
                  refine g_sub [3, 4, 5, 6, 7, 0] rfl ?_
                  exact ih M12 v10 x17 hz12 (by rw [ex17]; exact lp_decE (d := 1) (by decide) (by5 hb) c13 hmu)
                · refine g_iconst C (pc := 63) dX4_pairsThatNod_63 cI_2 ?_
                  refine g_iload C (pc := 64) dX4_pairsThatNod_64 0 rfl ?_
                  refine g_Spi C (pc := 66) (As := [.int 2, .int x15]) (kX4_isInRange l D cA T 2 x15) (v_none (mainW cA h M12) 56 rfl rfl) gX4_pairsThatNod_X4_isInRange rfl ⟨rfl, rfl⟩ ⟨Nat.le_of_ble_eq_true rfl, Nat.le_of_ble_eq_true rfl⟩ ⟨Nat.zero_le _, Nat.zero_le _⟩ rfl (Nat.le_of_ble_eq_true rfl) hdS_X4_isInRange rfl dX4_pairsThatNod_66 ?_
                  refine g_if_eq C (pc := 69) 95 dX4_pairsThatNod_69 (by decide) (fun c18 => ?_) (fun c18 => ?_)
                  · refine g_iincN C (pc := 95) 1 (fun y => [(5, .int y), (7, .int x15), (6, .int x14), (0, .ref (h 0)), (1, .int p0), (2, .int p1), (3, .int v10), (4, .int v3)]) dX4_pairsThatNod_95 7 rfl cI_1 (by decide) (fun _ => rfl) (fun x19 ex19 => ?_)
                    refine g_goto C (pc := 98) 16 dX4_pairsThatNod_98 (by decide) ?_
                    refine g_sub [3, 4, 5, 6, 7, 0] rfl ?_
                    exact ih M12 v10 x19 hz12 (by rw [ex19]; exact lp_decE (d := 1) (by decide) (by5 hb) c13 hmu)
                  · refine g_aload_n C (pc := 72) dX4_pairsThatNod_72 2 rfl ?_
                    refine g_iconst C (pc := 73) dX4_pairsThatNod_73 cI_1 ?_
                    refine g_iload C (pc := 74) dX4_pairsThatNod_74 1 rfl ?_
                    refine g_Ver C (pc := 76) (As := [.int 1, .int x14]) (kX4_freshWith l D cA T h M12 1 x14 hz12) (v_id (mainW cA h) M12 56 (fun _ => rfl) rfl) gX4_pairsThatNod_X4_freshWith rfl ⟨rfl, rfl⟩ ⟨Nat.le_of_ble_eq_true rfl, Nat.le_of_ble_eq_true rfl⟩ ⟨Nat.zero_le _, Nat.zero_le _⟩ rfl (Nat.le_of_ble_eq_true rfl) hdV_X4_freshWith 0 rfl rfl rfl dX4_pairsThatNod_76 (fun M20 eM20 hz_M20 => ?_)
                    have hz20 := hz_M20
                    refine g_iconst C (pc := 79) dX4_pairsThatNod_79 cI_2 ?_
                    refine g_iload C (pc := 80) dX4_pairsThatNod_80 0 rfl ?_
                    refine g_Ver C (pc := 82) (As := [.int 2, .int x15]) (kX0_with l D cA T (sh 25 h) (sh 25 M20) 2 x15 ⟨hz20.2.2.2.2.2.2.2.2.2.2.1, hz20.2.2.2.2.2.2.2.2.2.2.2.1, hz20.2.2.2.2.2.2.2.2.2.2.2.2.1, hz20.2.2.2.2.2.2.2.2.2.2.2.2.2.1, hz20.2.2.2.2.2.2.2.2.2.2.2.2.2.2.1⟩) (v_main_bird_25 cA h M20) gX4_pairsThatNod_X0_with rfl ⟨rfl, rfl⟩ ⟨Nat.le_of_ble_eq_true rfl, Nat.le_of_ble_eq_true rfl⟩ ⟨Nat.zero_le _, Nat.zero_le _⟩ rfl (Nat.le_of_ble_eq_true rfl) hdV_X0_with 0 rfl rfl rfl dX4_pairsThatNod_82 (fun z21 ez21 hz_z21 => ?_)
                    refine g_nmW (mainW cA h) (fun M22 eM22 => ?_)
                    have hz22 : (Zmain M22) := by rw [eM22]; exact ⟨hz20.1, hz20.2.1, hz20.2.2.1, hz20.2.2.2.1, hz20.2.2.2.2.1, hz20.2.2.2.2.2.1, hz20.2.2.2.2.2.2.1, hz20.2.2.2.2.2.2.2.1, hz20.2.2.2.2.2.2.2.2.1, hz20.2.2.2.2.2.2.2.2.2.1, hz_z21.1, hz_z21.2.1, hz_z21.2.2.1, hz_z21.2.2.2.1, hz_z21.2.2.2.2, hz20.2.2.2.2.2.2.2.2.2.2.2.2.2.2.2.1, hz20.2.2.2.2.2.2.2.2.2.2.2.2.2.2.2.2.1, hz20.2.2.2.2.2.2.2.2.2.2.2.2.2.2.2.2.2.1, hz20.2.2.2.2.2.2.2.2.2.2.2.2.2.2.2.2.2.2.1, hz20.2.2.2.2.2.2.2.2.2.2.2.2.2.2.2.2.2.2.2.1, hz20.2.2.2.2.2.2.2.2.2.2.2.2.2.2.2.2.2.2.2.2.1, hz20.2.2.2.2.2.2.2.2.2.2.2.2.2.2.2.2.2.2.2.2.2.1, hz20.2.2.2.2.2.2.2.2.2.2.2.2.2.2.2.2.2.2.2.2.2.2⟩
                    refine g_iload_n C (pc := 85) dX4_pairsThatNod_85 3 rfl ?_
                    refine g_Vei C (pc := 86) (As := [.int p0]) (kX0_nodsWithin l D cA T (sh 25 h) (sh 25 M22) p0 ⟨hz22.2.2.2.2.2.2.2.2.2.2.1, hz22.2.2.2.2.2.2.2.2.2.2.2.1, hz22.2.2.2.2.2.2.2.2.2.2.2.2.1, hz22.2.2.2.2.2.2.2.2.2.2.2.2.2.1, hz22.2.2.2.2.2.2.2.2.2.2.2.2.2.2.1⟩) (v_main_bird_25 cA h M22) gX4_pairsThatNod_X0_nodsWithin rfl ⟨rfl, rfl⟩ ⟨Nat.le_of_ble_eq_true rfl, Nat.le_of_ble_eq_true rfl⟩ ⟨Nat.zero_le _, Nat.zero_le _⟩ rfl (Nat.le_of_ble_eq_true rfl) hdV_X0_nodsWithin 0 rfl rfl rfl dX4_pairsThatNod_86 (fun z23 ez23 hz_z23 => ?_)
                    refine g_nmW (mainW cA h) (fun M24 eM24 => ?_)
                    have hz24 : (Zmain M24) := by rw [eM24]; exact ⟨hz22.1, hz22.2.1, hz22.2.2.1, hz22.2.2.2.1, hz22.2.2.2.2.1, hz22.2.2.2.2.2.1, hz22.2.2.2.2.2.2.1, hz22.2.2.2.2.2.2.2.1, hz22.2.2.2.2.2.2.2.2.1, hz22.2.2.2.2.2.2.2.2.2.1, hz_z23.1, hz_z23.2.1, hz_z23.2.2.1, hz_z23.2.2.2.1, hz_z23.2.2.2.2, hz22.2.2.2.2.2.2.2.2.2.2.2.2.2.2.2.1, hz22.2.2.2.2.2.2.2.2.2.2.2.2.2.2.2.2.1, hz22.2.2.2.2.2.2.2.2.2.2.2.2.2.2.2.2.2.1, hz22.2.2.2.2.2.2.2.2.2.2.2.2.2.2.2.2.2.2.1, hz22.2.2.2.2.2.2.2.2.2.2.2.2.2.2.2.2.2.2.2.1, hz22.2.2.2.2.2.2.2.2.2.2.2.2.2.2.2.2.2.2.2.2.1, hz22.2.2.2.2.2.2.2.2.2.2.2.2.2.2.2.2.2.2.2.2.2.1, hz22.2.2.2.2.2.2.2.2.2.2.2.2.2.2.2.2.2.2.2.2.2.2⟩
                    refine g_if_eq C (pc := 89) 95 dX4_pairsThatNod_89 (by decide) (fun c25 => ?_) (fun c25 => ?_)
                    · refine g_iincN C (pc := 95) 1 (fun y => [(5, .int y), (7, .int x15), (6, .int x14), (0, .ref (h 0)), (1, .int p0), (2, .int p1), (3, .int v10), (4, .int v3)]) dX4_pairsThatNod_95 7 rfl cI_1 (by decide) (fun _ => rfl) (fun x26 ex26 => ?_)
                      refine g_goto C (pc := 98) 16 dX4_pairsThatNod_98 (by decide) ?_
                      refine g_sub [3, 4, 5, 6, 7, 0] rfl ?_
                      exact ih M24 v10 x26 hz24 (by rw [ex26]; exact lp_decE (d := 1) (by decide) (by5 hb) c13 hmu)
                    · refine g_iincN C (pc := 92) 1 (fun y => [(3, .int y), (7, .int x15), (6, .int x14), (0, .ref (h 0)), (1, .int p0), (2, .int p1), (4, .int v3), (5, .int v11)]) dX4_pairsThatNod_92 5 rfl cI_1 (by decide) (fun _ => rfl) (fun x27 ex27 => ?_)
                      refine g_iincN C (pc := 95) 1 (fun y => [(5, .int y), (3, .int x27), (7, .int x15), (6, .int x14), (0, .ref (h 0)), (1, .int p0), (2, .int p1), (4, .int v3)]) dX4_pairsThatNod_95 7 rfl cI_1 (by decide) (fun _ => rfl) (fun x28 ex28 => ?_)
                      refine g_goto C (pc := 98) 16 dX4_pairsThatNod_98 (by decide) ?_
                      refine g_sub [4, 5, 6, 1, 7, 0] rfl ?_
                      exact ih M24 x27 x28 hz24 (by rw [ex28]; exact lp_decE (d := 1) (by decide) (by5 hb) c13 hmu)
          refine g_sub [1, 2, 3, 4, 5, 0] rfl ?_
          exact L16 _ M4 v2 x6 hz4 (Nat.lt_succ_self _)
  refine g_sub [2, 3, 4, 1, 0] rfl ?_
  exact L6 _ M 0 x1 hz (Nat.lt_succ_self _)

theorem outside_b {M : St} {a b : Int32} {z : Int32 × St} {x : Int32} (ez : z = xX4_outside M a b) (ex : x = z.1) (c : x = 0) : b = 0 := by
  subst ex
  subst ez
  by_cases hb : b = 0
  · exact hb
  · exfalso
    revert c
    unfold xX4_outside xX4_refuse
    simp only [nm, if_neg hb]
    split <;> simp
theorem goes_by {M : St} {a b p0 p1 : Int32} {z : Int32 × St} {x : Int32} (ez : z = xX4_outside M a b) (ex : x = z.1) (c : x = 0) (ev : b = if 300 < p0 then 1 else if p1 ≤ 5 then 0 else 1) : p1.toInt ≤ 5 := by
  rw [outside_b ez ex c] at ev
  split at ev
  · exact absurd ev (by decide)
  · split at ev
    · rename_i q
      exact Int32.le_iff_toInt_le.mp q
    · exact absurd ev (by decide)
noncomputable def xX4_goes_j9 (M1 : St) : Int32 × St := nm (xX4_refuse M1 (-2)) fun z2 => nm (z2.2) fun M3 => (z2.1, M3)
noncomputable def xX4_goes (M : St) (p0 : Int32) (p1 : Int32) (p2 : Int32) : Int32 × St := if p2 < 0 then (xX4_goes_j9 M ) else (if p2 ≤ 1 then (nm (if p0 < 1 then (1) else (if 0 ≤ p1 then (0) else (1)) : Int32) fun v8 => nm (if 300 < p0 then (1) else (if p1 ≤ 5 then (0) else (1)) : Int32) fun v11 => nm (xX4_outside M v8 v11) fun z12 => nm (z12.2) fun M13 => nm (z12.1 : Int32) fun x14 => if x14 = 0 then (nm (xX4_pairsThatNod M13 p0 p1) fun z16 => nm (z16.2) fun M17 => nm (z16.1 : Int32) fun x18 => nm ((((2 * p1) + 1) * ((2 * p1) + 1)) : Int32) fun x19 => nm ((xX4_commonDivisor x18 x19) : Int32) fun x20 => nm (if p2 = 0 then (x18) else (x19) : Int32) fun v22 => if x20 ≤ 0 then ((v22, M17)) else (((v22 / x20), M17))) else ((x14, M13))) else (xX4_goes_j9 M ))
set_option maxHeartbeats 4000000 in
set_option maxRecDepth 100000 in
theorem kX4_goes (l : Launch) (D : va_G) (cA : ClassId) (T : Nat × Nat × Nat) (h : Nat → Nat) (M : St) (p0 : Int32) (p1 : Int32) (p2 : Int32) (hz : (Zmain M)) : ∀ sz : Nat, Met l yX4_goes wsX4_goes { frames := 6, cells := 0, slots := 0, locals := 158 } (va_Pc [.ref (h 0), .int p0, .int p1, .int p2] (PreW D cA T (mainW cA h M) sz)) (va_Qi (fun r u => (r, u) = (xX4_goes M p0 p1 p2) ∧ (Zmain) u) (fun u => PostW D cA (va_A (mainW cA h M) sz) (mainW cA h u)) (va_A (mainW cA h M) sz)) 0 0 (va_A (mainW cA h M) sz) := by
  refine m_ei (Wf := mainW cA h) (inv := (Zmain)) (cc := cX4_goes) (maxL := 9) (own := RX4) (by decide) rfl rfl (Nat.le_of_ble_eq_true rfl) (fun {p e s m args below meth c} A C X => ?_)
  show G p l e { frames := 6, cells := 0, slots := 0, locals := 158 } s m args below meth c 0 0 D A (Qei below D cA A args s 0 0 (mainW cA h) (Zmain) X) 9 X (xX4_goes M p0 p1 p2) (mainW cA h M) 0 [(0, .ref (h 0)), (1, .int p0), (2, .int p1), (3, .int p2)] []
  unfold xX4_goes
  refine g_iload_n C (pc := 0) dX4_goes_0 3 rfl ?_
  have J9 : ∀ (M1 : St), (Zmain M1) → G p l e { frames := 6, cells := 0, slots := 0, locals := 158 } s m args below meth c 0 0 D A (Qei below D cA A args s 0 0 (mainW cA h) (Zmain) X) 9 X (xX4_goes_j9 M1 ) (mainW cA h M1) 9 [(0, .ref (h 0))] [] := by
    intro M1 hz1
    unfold xX4_goes_j9
    refine g_aload_n C (pc := 9) dX4_goes_9 0 rfl ?_
    refine g_bipush C (pc := 10) dX4_goes_10 cB_m2 ?_
    refine g_Vei C (pc := 12) (As := [.int (-2)]) (kX4_refuse l D cA T h M1 (-2) hz1) (v_id (mainW cA h) M1 56 (fun _ => rfl) rfl) gX4_goes_X4_refuse rfl ⟨rfl, rfl⟩ ⟨Nat.le_of_ble_eq_true rfl, Nat.le_of_ble_eq_true rfl⟩ ⟨Nat.zero_le _, Nat.zero_le _⟩ rfl (Nat.le_of_ble_eq_true rfl) hdV_X4_refuse 0 rfl rfl rfl dX4_goes_12 (fun z2 ez2 hz_z2 => ?_)
    refine g_nmW (mainW cA h) (fun M3 eM3 => ?_)
    have hz3 : (Zmain M3) := by rw [eM3]; exact hz_z2
    exact r_ei C rfl dX4_goes_15 hz3
  refine g_if_lt C (pc := 1) 9 dX4_goes_1 (by decide) (fun c4 => ?_) (fun c4 => ?_)
  · refine g_sub [0] rfl ?_
    exact J9 M hz
  · refine g_iload_n C (pc := 4) dX4_goes_4 3 rfl ?_
    refine g_iconst C (pc := 5) dX4_goes_5 cI_1 ?_
    refine g_icmp_le C (pc := 6) 16 dX4_goes_6 (by decide) (fun c5 => ?_) (fun c5 => ?_)
    · refine g_aload_n C (pc := 16) dX4_goes_16 0 rfl ?_
      refine g_iload_n C (pc := 17) dX4_goes_17 1 rfl ?_
      refine g_iconst C (pc := 18) dX4_goes_18 cI_1 ?_
      refine g_join (α := Int32) (fun v8 => [(0, .ref (h 0)), (1, .int p0), (2, .int p1), (3, .int p2)]) (fun v8 => [.int v8, .ref (h 0)]) 31 (fun v8 ev8 => ?_) (fun Jv8 => ?_)
      · refine g_iload_n C (pc := 31) dX4_goes_31 1 rfl ?_
        refine g_sipush C (pc := 32) dX4_goes_32 cS_300 ?_
        refine g_join (α := Int32) (fun v11 => [(0, .ref (h 0)), (1, .int p0), (2, .int p1), (3, .int p2)]) (fun v11 => [.int v11, .int v8, .ref (h 0)]) 48 (fun v11 ev11 => ?_) (fun Jv11 => ?_)
        · refine g_Vei C (pc := 48) (As := [.int v8, .int v11]) (kX4_outside l D cA T h M v8 v11 hz) (v_id (mainW cA h) M 56 (fun _ => rfl) rfl) gX4_goes_X4_outside rfl ⟨rfl, rfl⟩ ⟨Nat.le_of_ble_eq_true rfl, Nat.le_of_ble_eq_true rfl⟩ ⟨Nat.zero_le _, Nat.zero_le _⟩ rfl (Nat.le_of_ble_eq_true rfl) hdV_X4_outside 0 rfl rfl rfl dX4_goes_48 (fun z12 ez12 hz_z12 => ?_)
          refine g_nmW (mainW cA h) (fun M13 eM13 => ?_)
          have hz13 : (Zmain M13) := by rw [eM13]; exact hz_z12
          refine g_nmi (fun x14 ex14 => ?_)
          refine g_istore C (pc := 51) [(4, .int x14), (0, .ref (h 0)), (1, .int p0), (2, .int p1), (3, .int p2)] dX4_goes_51 (by decide) rfl ?_
          refine g_iload C (pc := 53) dX4_goes_53 0 rfl ?_
          refine g_if_eq C (pc := 55) 61 dX4_goes_55 (by decide) (fun c15 => ?_) (fun c15 => ?_)
          · refine g_aload_n C (pc := 61) dX4_goes_61 1 rfl ?_
            refine g_iload_n C (pc := 62) dX4_goes_62 2 rfl ?_
            refine g_iload_n C (pc := 63) dX4_goes_63 3 rfl ?_
            refine g_Vei C (pc := 64) (As := [.int p0, .int p1]) (kX4_pairsThatNod l D cA T h M13 p0 p1 hz13 (goes_by ez12 ex14 c15 ev11)) (v_id (mainW cA h) M13 56 (fun _ => rfl) rfl) gX4_goes_X4_pairsThatNod rfl ⟨rfl, rfl⟩ ⟨Nat.le_of_ble_eq_true rfl, Nat.le_of_ble_eq_true rfl⟩ ⟨Nat.zero_le _, Nat.zero_le _⟩ rfl (Nat.le_of_ble_eq_true rfl) hdV_X4_pairsThatNod 0 rfl rfl rfl dX4_goes_64 (fun z16 ez16 hz_z16 => ?_)
            refine g_nmW (mainW cA h) (fun M17 eM17 => ?_)
            have hz17 : (Zmain M17) := by rw [eM17]; exact hz_z16
            refine g_nmi (fun x18 ex18 => ?_)
            refine g_istore C (pc := 67) [(5, .int x18), (4, .int x14), (0, .ref (h 0)), (1, .int p0), (2, .int p1), (3, .int p2)] dX4_goes_67 (by decide) rfl ?_
            refine g_iconst C (pc := 69) dX4_goes_69 cI_2 ?_
            refine g_iload_n C (pc := 70) dX4_goes_70 4 rfl ?_
            refine g_imul C (pc := 71) dX4_goes_71 ?_
            refine g_iconst C (pc := 72) dX4_goes_72 cI_1 ?_
            refine g_iadd C (pc := 73) dX4_goes_73 ?_
            refine g_iconst C (pc := 74) dX4_goes_74 cI_2 ?_
            refine g_iload_n C (pc := 75) dX4_goes_75 4 rfl ?_
            refine g_imul C (pc := 76) dX4_goes_76 ?_
            refine g_iconst C (pc := 77) dX4_goes_77 cI_1 ?_
            refine g_iadd C (pc := 78) dX4_goes_78 ?_
            refine g_imul C (pc := 79) dX4_goes_79 ?_
            refine g_nmi (fun x19 ex19 => ?_)
            refine g_istore C (pc := 80) [(6, .int x19), (5, .int x18), (4, .int x14), (0, .ref (h 0)), (1, .int p0), (2, .int p1), (3, .int p2)] dX4_goes_80 (by decide) rfl ?_
            refine g_iload C (pc := 82) dX4_goes_82 1 rfl ?_
            refine g_iload C (pc := 84) dX4_goes_84 0 rfl ?_
            refine g_Spi C (pc := 86) (As := [.int x18, .int x19]) (kX4_commonDivisor l D cA T x18 x19) (v_none (mainW cA h M17) 56 rfl rfl) gX4_goes_X4_commonDivisor rfl ⟨rfl, rfl⟩ ⟨Nat.le_of_ble_eq_true rfl, Nat.le_of_ble_eq_true rfl⟩ ⟨Nat.zero_le _, Nat.zero_le _⟩ rfl (Nat.le_of_ble_eq_true rfl) hdS_X4_commonDivisor rfl dX4_goes_86 ?_
            refine g_nmi (fun x20 ex20 => ?_)
            refine g_istore C (pc := 89) [(7, .int x20), (6, .int x19), (5, .int x18), (4, .int x14), (0, .ref (h 0)), (1, .int p0), (2, .int p1), (3, .int p2)] dX4_goes_89 (by decide) rfl ?_
            refine g_iload_n C (pc := 91) dX4_goes_91 7 rfl ?_
            refine g_join (α := Int32) (fun v22 => [(7, .int x20)]) (fun v22 => [.int v22]) 102 (fun v22 ev22 => ?_) (fun Jv22 => ?_)
            · refine g_istore C (pc := 102) [(8, .int v22), (7, .int x20)] dX4_goes_102 (by decide) rfl ?_
              refine g_iload C (pc := 104) dX4_goes_104 1 rfl ?_
              refine g_if_le C (pc := 106) 117 dX4_goes_106 (by decide) (fun c23 => ?_) (fun c23 => ?_)
              · refine g_iload C (pc := 117) dX4_goes_117 0 rfl ?_
                exact r_ei C rfl dX4_goes_119 hz17
              · refine g_iload C (pc := 109) dX4_goes_109 0 rfl ?_
                refine g_iload C (pc := 111) dX4_goes_111 1 rfl ?_
                refine g_idiv C (pc := 113) dX4_goes_113 (nz_pos c23) ?_
                refine g_goto C (pc := 114) 119 dX4_goes_114 (by decide) ?_
                exact r_ei C rfl dX4_goes_119 hz17
            · refine g_if_ne0 C (pc := 92) 100 dX4_goes_92 (by decide) (fun c21 => ?_) (fun c21 => ?_)
              · refine g_iload C (pc := 100) dX4_goes_100 1 rfl ?_
                refine g_sub [0] rfl ?_
                exact g_lf (if_neg c21) (Jv22 _ (Eq.symm (if_neg c21)))
              · refine g_iload C (pc := 95) dX4_goes_95 2 rfl ?_
                refine g_goto C (pc := 97) 102 dX4_goes_97 (by decide) ?_
                refine g_sub [0] rfl ?_
                exact g_lf (if_pos c21) (Jv22 _ (Eq.symm (if_pos c21)))
          · refine g_iload C (pc := 58) dX4_goes_58 0 rfl ?_
            exact r_ei C rfl dX4_goes_60 hz13
        · refine g_icmp_gt0 C (pc := 35) 43 dX4_goes_35 (by decide) (fun c9 => ?_) (fun c9 => ?_)
          · refine g_iconst C (pc := 43) dX4_goes_43 cI_1 ?_
            refine g_goto C (pc := 44) 48 dX4_goes_44 (by decide) ?_
            refine g_sub [0, 1, 2, 3] rfl ?_
            exact g_lf (if_pos c9) (Jv11 _ (Eq.symm (if_pos c9)))
          · refine g_iload_n C (pc := 38) dX4_goes_38 2 rfl ?_
            refine g_iconst C (pc := 39) dX4_goes_39 cI_5 ?_
            refine g_icmp_le0 C (pc := 40) 47 dX4_goes_40 (by decide) (fun c10 => ?_) (fun c10 => ?_)
            · refine g_iconst C (pc := 47) dX4_goes_47 cI_0 ?_
              refine g_sub [0, 1, 2, 3] rfl ?_
              exact g_lf ((if_neg c9).trans (if_pos c10)) (Jv11 _ (Eq.symm ((if_neg c9).trans (if_pos c10))))
            · refine g_iconst C (pc := 43) dX4_goes_43 cI_1 ?_
              refine g_goto C (pc := 44) 48 dX4_goes_44 (by decide) ?_
              refine g_sub [0, 1, 2, 3] rfl ?_
              exact g_lf ((if_neg c9).trans (if_neg c10)) (Jv11 _ (Eq.symm ((if_neg c9).trans (if_neg c10))))
      · refine g_icmp_lt0 C (pc := 19) 26 dX4_goes_19 (by decide) (fun c6 => ?_) (fun c6 => ?_)
        · refine g_iconst C (pc := 26) dX4_goes_26 cI_1 ?_
          refine g_goto C (pc := 27) 31 dX4_goes_27 (by decide) ?_
          refine g_sub [0, 1, 2, 3] rfl ?_
          exact g_lf (if_pos c6) (Jv8 _ (Eq.symm (if_pos c6)))
        · refine g_iload_n C (pc := 22) dX4_goes_22 2 rfl ?_
          refine g_if_ge0 C (pc := 23) 30 dX4_goes_23 (by decide) (fun c7 => ?_) (fun c7 => ?_)
          · refine g_iconst C (pc := 30) dX4_goes_30 cI_0 ?_
            refine g_sub [0, 1, 2, 3] rfl ?_
            exact g_lf ((if_neg c6).trans (if_pos c7)) (Jv8 _ (Eq.symm ((if_neg c6).trans (if_pos c7))))
          · refine g_iconst C (pc := 26) dX4_goes_26 cI_1 ?_
            refine g_goto C (pc := 27) 31 dX4_goes_27 (by decide) ?_
            refine g_sub [0, 1, 2, 3] rfl ?_
            exact g_lf ((if_neg c6).trans (if_neg c7)) (Jv8 _ (Eq.symm ((if_neg c6).trans (if_neg c7))))
    · refine g_sub [0] rfl ?_
      exact J9 M hz

noncomputable def xX4_bestRoom_l42 : Nat → St → Int32 → Int32 → Int32 → Int32 → Int32 × St
  | 0, M13, _, _, _, _ => (0, M13)
  | k + 1, M13, p0, v10, v11, v12 => if 400 < v12 then ((v10, M13)) else (nm (xX4_freshWith M13 11 v12) fun M15 => nm (xX0_nodsIn (sh 25 M15) p0) fun z16 => nm (put 25 12 z16.2 M15) fun M17 => nm (z16.1 : Int32) fun x18 => if x18 ≤ v11 then (nm (v12 + 50 : Int32) fun x20 => xX4_bestRoom_l42 k M17 p0 v10 v11 x20) else (nm (v12 + 50 : Int32) fun x21 => xX4_bestRoom_l42 k M17 p0 v12 x18 x21))
noncomputable def xX4_bestRoom (M : St) (p0 : Int32) : Int32 × St := nm (if 1 ≤ p0 then (0) else (1) : Int32) fun v2 => nm (if p0 ≤ 3000 then (0) else (1) : Int32) fun v4 => nm (xX4_outside M v2 v4) fun z5 => nm (z5.2) fun M6 => nm (z5.1 : Int32) fun x7 => if x7 = 0 then (nm ((-1) : Int32) fun x9 => xX4_bestRoom_l42 (muE 100 400 + 1) M6 p0 0 x9 100) else ((x7, M6))
set_option maxHeartbeats 4000000 in
set_option maxRecDepth 100000 in
theorem kX4_bestRoom (l : Launch) (D : va_G) (cA : ClassId) (T : Nat × Nat × Nat) (h : Nat → Nat) (M : St) (p0 : Int32) (hz : (Zmain M)) : ∀ sz : Nat, Met l yX4_bestRoom wsX4_bestRoom { frames := 5, cells := 0, slots := 0, locals := 131 } (va_Pc [.ref (h 0), .int p0] (PreW D cA T (mainW cA h M) sz)) (va_Qi (fun r u => (r, u) = (xX4_bestRoom M p0) ∧ (Zmain) u) (fun u => PostW D cA (va_A (mainW cA h M) sz) (mainW cA h u)) (va_A (mainW cA h M) sz)) 0 0 (va_A (mainW cA h M) sz) := by
  refine m_ei (Wf := mainW cA h) (inv := (Zmain)) (cc := cX4_bestRoom) (maxL := 7) (own := RX4) (by decide) rfl rfl (Nat.le_of_ble_eq_true rfl) (fun {p e s m args below meth c} A C X => ?_)
  show G p l e { frames := 5, cells := 0, slots := 0, locals := 131 } s m args below meth c 0 0 D A (Qei below D cA A args s 0 0 (mainW cA h) (Zmain) X) 7 X (xX4_bestRoom M p0) (mainW cA h M) 0 [(0, .ref (h 0)), (1, .int p0)] []
  unfold xX4_bestRoom
  refine g_aload_n C (pc := 0) dX4_bestRoom_0 0 rfl ?_
  refine g_iload_n C (pc := 1) dX4_bestRoom_1 1 rfl ?_
  refine g_iconst C (pc := 2) dX4_bestRoom_2 cI_1 ?_
  refine g_join (α := Int32) (fun v2 => [(0, .ref (h 0)), (1, .int p0)]) (fun v2 => [.int v2, .ref (h 0)]) 11 (fun v2 ev2 => ?_) (fun Jv2 => ?_)
  · refine g_iload_n C (pc := 11) dX4_bestRoom_11 1 rfl ?_
    refine g_sipush C (pc := 12) dX4_bestRoom_12 cS_3000 ?_
    refine g_join (α := Int32) (fun v4 => [(0, .ref (h 0)), (1, .int p0)]) (fun v4 => [.int v4, .int v2, .ref (h 0)]) 23 (fun v4 ev4 => ?_) (fun Jv4 => ?_)
    · refine g_Vei C (pc := 23) (As := [.int v2, .int v4]) (kX4_outside l D cA T h M v2 v4 hz) (v_id (mainW cA h) M 56 (fun _ => rfl) rfl) gX4_bestRoom_X4_outside rfl ⟨rfl, rfl⟩ ⟨Nat.le_of_ble_eq_true rfl, Nat.le_of_ble_eq_true rfl⟩ ⟨Nat.zero_le _, Nat.zero_le _⟩ rfl (Nat.le_of_ble_eq_true rfl) hdV_X4_outside 0 rfl rfl rfl dX4_bestRoom_23 (fun z5 ez5 hz_z5 => ?_)
      refine g_nmW (mainW cA h) (fun M6 eM6 => ?_)
      have hz6 : (Zmain M6) := by rw [eM6]; exact hz_z5
      refine g_nmi (fun x7 ex7 => ?_)
      refine g_istore_n C (pc := 26) [(2, .int x7), (0, .ref (h 0)), (1, .int p0)] dX4_bestRoom_26 (by decide) rfl ?_
      refine g_iload_n C (pc := 27) dX4_bestRoom_27 0 rfl ?_
      refine g_if_eq C (pc := 28) 33 dX4_bestRoom_28 (by decide) (fun c8 => ?_) (fun c8 => ?_)
      · refine g_iconst C (pc := 33) dX4_bestRoom_33 cI_0 ?_
        refine g_istore_n C (pc := 34) [(3, .int 0), (2, .int x7), (0, .ref (h 0)), (1, .int p0)] dX4_bestRoom_34 (by decide) rfl ?_
        refine g_iconst C (pc := 35) dX4_bestRoom_35 cI_m1 ?_
        refine g_nmi (fun x9 ex9 => ?_)
        refine g_istore C (pc := 36) [(4, .int x9), (3, .int 0), (2, .int x7), (0, .ref (h 0)), (1, .int p0)] dX4_bestRoom_36 (by decide) rfl ?_
        refine g_bipush C (pc := 38) dX4_bestRoom_38 cB_100 ?_
        refine g_istore C (pc := 40) [(5, .int 100), (4, .int x9), (3, .int 0), (2, .int x7), (0, .ref (h 0)), (1, .int p0)] dX4_bestRoom_40 (by decide) rfl ?_
        have L42 : ∀ (k : Nat) (M13 : St) (v10 : Int32) (v11 : Int32) (v12 : Int32), (Zmain M13) → muE v12 400 < k → G p l e { frames := 5, cells := 0, slots := 0, locals := 131 } s m args below meth c 0 0 D A (Qei below D cA A args s 0 0 (mainW cA h) (Zmain) X) 7 X (xX4_bestRoom_l42 k M13 p0 v10 v11 v12) (mainW cA h M13) 42 [(0, .ref (h 0)), (1, .int p0), (3, .int v10), (4, .int v11), (5, .int v12)] [] := by
          intro k
          induction k with
          | zero => intro M13 v10 v11 v12 hz13 hmu; exact absurd hmu (Nat.not_lt_zero _)
          | succ k ih =>
            intro M13 v10 v11 v12 hz13 hmu
            rw [xX4_bestRoom_l42]
            refine g_iload C (pc := 42) dX4_bestRoom_42 4 rfl ?_
            refine g_sipush C (pc := 44) dX4_bestRoom_44 cS_400 ?_
            refine g_icmp_gt C (pc := 47) 84 dX4_bestRoom_47 (by decide) (fun c14 => ?_) (fun c14 => ?_)
            · refine g_iload_n C (pc := 84) dX4_bestRoom_84 2 rfl ?_
              exact r_ei C rfl dX4_bestRoom_85 hz13
            · refine g_aload_n C (pc := 50) dX4_bestRoom_50 0 rfl ?_
              refine g_bipush C (pc := 51) dX4_bestRoom_51 cB_11 ?_
              refine g_iload C (pc := 53) dX4_bestRoom_53 4 rfl ?_
              refine g_Ver C (pc := 55) (As := [.int 11, .int v12]) (kX4_freshWith l D cA T h M13 11 v12 hz13) (v_id (mainW cA h) M13 56 (fun _ => rfl) rfl) gX4_bestRoom_X4_freshWith rfl ⟨rfl, rfl⟩ ⟨Nat.le_of_ble_eq_true rfl, Nat.le_of_ble_eq_true rfl⟩ ⟨Nat.zero_le _, Nat.zero_le _⟩ rfl (Nat.le_of_ble_eq_true rfl) hdV_X4_freshWith 0 rfl rfl rfl dX4_bestRoom_55 (fun M15 eM15 hz_M15 => ?_)
              have hz15 := hz_M15
              refine g_iload_n C (pc := 58) dX4_bestRoom_58 1 rfl ?_
              refine g_Vei C (pc := 59) (As := [.int p0]) (kX0_nodsIn l D cA T (sh 25 h) (sh 25 M15) p0 ⟨hz15.2.2.2.2.2.2.2.2.2.2.1, hz15.2.2.2.2.2.2.2.2.2.2.2.1, hz15.2.2.2.2.2.2.2.2.2.2.2.2.1, hz15.2.2.2.2.2.2.2.2.2.2.2.2.2.1, hz15.2.2.2.2.2.2.2.2.2.2.2.2.2.2.1⟩) (v_main_bird_25 cA h M15) gX4_bestRoom_X0_nodsIn rfl ⟨rfl, rfl⟩ ⟨Nat.le_of_ble_eq_true rfl, Nat.le_of_ble_eq_true rfl⟩ ⟨Nat.zero_le _, Nat.zero_le _⟩ rfl (Nat.le_of_ble_eq_true rfl) hdV_X0_nodsIn 0 rfl rfl rfl dX4_bestRoom_59 (fun z16 ez16 hz_z16 => ?_)
              refine g_nmW (mainW cA h) (fun M17 eM17 => ?_)
              have hz17 : (Zmain M17) := by rw [eM17]; exact ⟨hz15.1, hz15.2.1, hz15.2.2.1, hz15.2.2.2.1, hz15.2.2.2.2.1, hz15.2.2.2.2.2.1, hz15.2.2.2.2.2.2.1, hz15.2.2.2.2.2.2.2.1, hz15.2.2.2.2.2.2.2.2.1, hz15.2.2.2.2.2.2.2.2.2.1, hz_z16.1, hz_z16.2.1, hz_z16.2.2.1, hz_z16.2.2.2.1, hz_z16.2.2.2.2, hz15.2.2.2.2.2.2.2.2.2.2.2.2.2.2.2.1, hz15.2.2.2.2.2.2.2.2.2.2.2.2.2.2.2.2.1, hz15.2.2.2.2.2.2.2.2.2.2.2.2.2.2.2.2.2.1, hz15.2.2.2.2.2.2.2.2.2.2.2.2.2.2.2.2.2.2.1, hz15.2.2.2.2.2.2.2.2.2.2.2.2.2.2.2.2.2.2.2.1, hz15.2.2.2.2.2.2.2.2.2.2.2.2.2.2.2.2.2.2.2.2.1, hz15.2.2.2.2.2.2.2.2.2.2.2.2.2.2.2.2.2.2.2.2.2.1, hz15.2.2.2.2.2.2.2.2.2.2.2.2.2.2.2.2.2.2.2.2.2.2⟩
              refine g_nmi (fun x18 ex18 => ?_)
              refine g_istore C (pc := 62) [(6, .int x18), (0, .ref (h 0)), (1, .int p0), (3, .int v10), (4, .int v11), (5, .int v12)] dX4_bestRoom_62 (by decide) rfl ?_
              refine g_iload C (pc := 64) dX4_bestRoom_64 0 rfl ?_
              refine g_iload C (pc := 66) dX4_bestRoom_66 4 rfl ?_
              refine g_icmp_le C (pc := 68) 78 dX4_bestRoom_68 (by decide) (fun c19 => ?_) (fun c19 => ?_)
              · refine g_iincN C (pc := 78) 50 (fun y => [(5, .int y), (6, .int x18), (0, .ref (h 0)), (1, .int p0), (3, .int v10), (4, .int v11)]) dX4_bestRoom_78 5 rfl cI_50 (by decide) (fun _ => rfl) (fun x20 ex20 => ?_)
                refine g_goto C (pc := 81) 42 dX4_bestRoom_81 (by decide) ?_
                refine g_sub [2, 3, 4, 5, 0] rfl ?_
                exact ih M17 v10 v11 x20 hz17 (by rw [ex20]; exact lp_decE (d := 50) (by decide) (by decide) c14 hmu)
              · refine g_iload C (pc := 71) dX4_bestRoom_71 0 rfl ?_
                refine g_istore C (pc := 73) [(4, .int x18), (6, .int x18), (0, .ref (h 0)), (1, .int p0), (3, .int v10), (5, .int v12)] dX4_bestRoom_73 (by decide) rfl ?_
                refine g_iload C (pc := 75) dX4_bestRoom_75 5 rfl ?_
                refine g_istore_n C (pc := 77) [(3, .int v12), (4, .int x18), (6, .int x18), (0, .ref (h 0)), (1, .int p0), (5, .int v12)] dX4_bestRoom_77 (by decide) rfl ?_
                refine g_iincN C (pc := 78) 50 (fun y => [(5, .int y), (3, .int v12), (4, .int x18), (6, .int x18), (0, .ref (h 0)), (1, .int p0)]) dX4_bestRoom_78 5 rfl cI_50 (by decide) (fun _ => rfl) (fun x21 ex21 => ?_)
                refine g_goto C (pc := 81) 42 dX4_bestRoom_81 (by decide) ?_
                refine g_sub [4, 5, 1, 2, 0] rfl ?_
                exact ih M17 v12 x18 x21 hz17 (by rw [ex21]; exact lp_decE (d := 50) (by decide) (by decide) c14 hmu)
        refine g_sub [4, 5, 2, 1, 0] rfl ?_
        exact L42 _ M6 0 x9 100 hz6 (Nat.lt_succ_self _)
      · refine g_iload_n C (pc := 31) dX4_bestRoom_31 0 rfl ?_
        exact r_ei C rfl dX4_bestRoom_32 hz6
    · refine g_icmp_le0 C (pc := 15) 22 dX4_bestRoom_15 (by decide) (fun c3 => ?_) (fun c3 => ?_)
      · refine g_iconst C (pc := 22) dX4_bestRoom_22 cI_0 ?_
        refine g_sub [0, 1] rfl ?_
        exact g_lf (if_pos c3) (Jv4 _ (Eq.symm (if_pos c3)))
      · refine g_iconst C (pc := 18) dX4_bestRoom_18 cI_1 ?_
        refine g_goto C (pc := 19) 23 dX4_bestRoom_19 (by decide) ?_
        refine g_sub [0, 1] rfl ?_
        exact g_lf (if_neg c3) (Jv4 _ (Eq.symm (if_neg c3)))
  · refine g_icmp_ge0 C (pc := 3) 10 dX4_bestRoom_3 (by decide) (fun c1 => ?_) (fun c1 => ?_)
    · refine g_iconst C (pc := 10) dX4_bestRoom_10 cI_0 ?_
      refine g_sub [0, 1] rfl ?_
      exact g_lf (if_pos c1) (Jv2 _ (Eq.symm (if_pos c1)))
    · refine g_iconst C (pc := 6) dX4_bestRoom_6 cI_1 ?_
      refine g_goto C (pc := 7) 11 dX4_bestRoom_7 (by decide) ?_
      refine g_sub [0, 1] rfl ?_
      exact g_lf (if_neg c1) (Jv2 _ (Eq.symm (if_neg c1)))

noncomputable def xX4_latest_l42 : Nat → St → Int32 → Int32 → Int32 → Int32 → Int32 × St
  | 0, M14, _, _, _, _ => (0, M14)
  | k + 1, M14, p0, v11, v12, v13 => if 4 < v13 then ((v11, M14)) else (nm (xX4_freshWith M14 6 v13) fun M16 => nm (xX0_lastNodIn (sh 25 M16) p0) fun z17 => nm (put 25 12 z17.2 M16) fun M18 => nm (z17.1 : Int32) fun x19 => if x19 ≤ v12 then (nm (v13 + 1 : Int32) fun x21 => xX4_latest_l42 k M18 p0 v11 v12 x21) else (nm (v13 + 1 : Int32) fun x22 => xX4_latest_l42 k M18 p0 v13 x19 x22))
noncomputable def xX4_latest (M : St) (p0 : Int32) : Int32 × St := nm (if 1 ≤ p0 then (0) else (1) : Int32) fun v2 => nm (if p0 ≤ 3000 then (0) else (1) : Int32) fun v4 => nm (xX4_outside M v2 v4) fun z5 => nm (z5.2) fun M6 => nm (z5.1 : Int32) fun x7 => if x7 = 0 then (nm ((-9) : Int32) fun x9 => nm ((-1) : Int32) fun x10 => xX4_latest_l42 (muE 1 4 + 1) M6 p0 x9 x10 1) else ((x7, M6))
set_option maxHeartbeats 4000000 in
set_option maxRecDepth 100000 in
theorem kX4_latest (l : Launch) (D : va_G) (cA : ClassId) (T : Nat × Nat × Nat) (h : Nat → Nat) (M : St) (p0 : Int32) (hz : (Zmain M)) : ∀ sz : Nat, Met l yX4_latest wsX4_latest { frames := 6, cells := 0, slots := 0, locals := 138 } (va_Pc [.ref (h 0), .int p0] (PreW D cA T (mainW cA h M) sz)) (va_Qi (fun r u => (r, u) = (xX4_latest M p0) ∧ (Zmain) u) (fun u => PostW D cA (va_A (mainW cA h M) sz) (mainW cA h u)) (va_A (mainW cA h M) sz)) 0 0 (va_A (mainW cA h M) sz) := by
  refine m_ei (Wf := mainW cA h) (inv := (Zmain)) (cc := cX4_latest) (maxL := 7) (own := RX4) (by decide) rfl rfl (Nat.le_of_ble_eq_true rfl) (fun {p e s m args below meth c} A C X => ?_)
  show G p l e { frames := 6, cells := 0, slots := 0, locals := 138 } s m args below meth c 0 0 D A (Qei below D cA A args s 0 0 (mainW cA h) (Zmain) X) 7 X (xX4_latest M p0) (mainW cA h M) 0 [(0, .ref (h 0)), (1, .int p0)] []
  unfold xX4_latest
  refine g_aload_n C (pc := 0) dX4_latest_0 0 rfl ?_
  refine g_iload_n C (pc := 1) dX4_latest_1 1 rfl ?_
  refine g_iconst C (pc := 2) dX4_latest_2 cI_1 ?_
  refine g_join (α := Int32) (fun v2 => [(0, .ref (h 0)), (1, .int p0)]) (fun v2 => [.int v2, .ref (h 0)]) 11 (fun v2 ev2 => ?_) (fun Jv2 => ?_)
  · refine g_iload_n C (pc := 11) dX4_latest_11 1 rfl ?_
    refine g_sipush C (pc := 12) dX4_latest_12 cS_3000 ?_
    refine g_join (α := Int32) (fun v4 => [(0, .ref (h 0)), (1, .int p0)]) (fun v4 => [.int v4, .int v2, .ref (h 0)]) 23 (fun v4 ev4 => ?_) (fun Jv4 => ?_)
    · refine g_Vei C (pc := 23) (As := [.int v2, .int v4]) (kX4_outside l D cA T h M v2 v4 hz) (v_id (mainW cA h) M 56 (fun _ => rfl) rfl) gX4_latest_X4_outside rfl ⟨rfl, rfl⟩ ⟨Nat.le_of_ble_eq_true rfl, Nat.le_of_ble_eq_true rfl⟩ ⟨Nat.zero_le _, Nat.zero_le _⟩ rfl (Nat.le_of_ble_eq_true rfl) hdV_X4_outside 0 rfl rfl rfl dX4_latest_23 (fun z5 ez5 hz_z5 => ?_)
      refine g_nmW (mainW cA h) (fun M6 eM6 => ?_)
      have hz6 : (Zmain M6) := by rw [eM6]; exact hz_z5
      refine g_nmi (fun x7 ex7 => ?_)
      refine g_istore_n C (pc := 26) [(2, .int x7), (0, .ref (h 0)), (1, .int p0)] dX4_latest_26 (by decide) rfl ?_
      refine g_iload_n C (pc := 27) dX4_latest_27 0 rfl ?_
      refine g_if_eq C (pc := 28) 33 dX4_latest_28 (by decide) (fun c8 => ?_) (fun c8 => ?_)
      · refine g_bipush C (pc := 33) dX4_latest_33 cB_m9 ?_
        refine g_nmi (fun x9 ex9 => ?_)
        refine g_istore_n C (pc := 35) [(3, .int x9), (2, .int x7), (0, .ref (h 0)), (1, .int p0)] dX4_latest_35 (by decide) rfl ?_
        refine g_iconst C (pc := 36) dX4_latest_36 cI_m1 ?_
        refine g_nmi (fun x10 ex10 => ?_)
        refine g_istore C (pc := 37) [(4, .int x10), (3, .int x9), (2, .int x7), (0, .ref (h 0)), (1, .int p0)] dX4_latest_37 (by decide) rfl ?_
        refine g_iconst C (pc := 39) dX4_latest_39 cI_1 ?_
        refine g_istore C (pc := 40) [(5, .int 1), (4, .int x10), (3, .int x9), (2, .int x7), (0, .ref (h 0)), (1, .int p0)] dX4_latest_40 (by decide) rfl ?_
        have L42 : ∀ (k : Nat) (M14 : St) (v11 : Int32) (v12 : Int32) (v13 : Int32), (Zmain M14) → muE v13 4 < k → G p l e { frames := 6, cells := 0, slots := 0, locals := 138 } s m args below meth c 0 0 D A (Qei below D cA A args s 0 0 (mainW cA h) (Zmain) X) 7 X (xX4_latest_l42 k M14 p0 v11 v12 v13) (mainW cA h M14) 42 [(0, .ref (h 0)), (1, .int p0), (3, .int v11), (4, .int v12), (5, .int v13)] [] := by
          intro k
          induction k with
          | zero => intro M14 v11 v12 v13 hz14 hmu; exact absurd hmu (Nat.not_lt_zero _)
          | succ k ih =>
            intro M14 v11 v12 v13 hz14 hmu
            rw [xX4_latest_l42]
            refine g_iload C (pc := 42) dX4_latest_42 4 rfl ?_
            refine g_iconst C (pc := 44) dX4_latest_44 cI_4 ?_
            refine g_icmp_gt C (pc := 45) 82 dX4_latest_45 (by decide) (fun c15 => ?_) (fun c15 => ?_)
            · refine g_iload_n C (pc := 82) dX4_latest_82 2 rfl ?_
              exact r_ei C rfl dX4_latest_83 hz14
            · refine g_aload_n C (pc := 48) dX4_latest_48 0 rfl ?_
              refine g_bipush C (pc := 49) dX4_latest_49 cB_6 ?_
              refine g_iload C (pc := 51) dX4_latest_51 4 rfl ?_
              refine g_Ver C (pc := 53) (As := [.int 6, .int v13]) (kX4_freshWith l D cA T h M14 6 v13 hz14) (v_id (mainW cA h) M14 56 (fun _ => rfl) rfl) gX4_latest_X4_freshWith rfl ⟨rfl, rfl⟩ ⟨Nat.le_of_ble_eq_true rfl, Nat.le_of_ble_eq_true rfl⟩ ⟨Nat.zero_le _, Nat.zero_le _⟩ rfl (Nat.le_of_ble_eq_true rfl) hdV_X4_freshWith 0 rfl rfl rfl dX4_latest_53 (fun M16 eM16 hz_M16 => ?_)
              have hz16 := hz_M16
              refine g_iload_n C (pc := 56) dX4_latest_56 1 rfl ?_
              refine g_Vei C (pc := 57) (As := [.int p0]) (kX0_lastNodIn l D cA T (sh 25 h) (sh 25 M16) p0 ⟨hz16.2.2.2.2.2.2.2.2.2.2.1, hz16.2.2.2.2.2.2.2.2.2.2.2.1, hz16.2.2.2.2.2.2.2.2.2.2.2.2.1, hz16.2.2.2.2.2.2.2.2.2.2.2.2.2.1, hz16.2.2.2.2.2.2.2.2.2.2.2.2.2.2.1⟩) (v_main_bird_25 cA h M16) gX4_latest_X0_lastNodIn rfl ⟨rfl, rfl⟩ ⟨Nat.le_of_ble_eq_true rfl, Nat.le_of_ble_eq_true rfl⟩ ⟨Nat.zero_le _, Nat.zero_le _⟩ rfl (Nat.le_of_ble_eq_true rfl) hdV_X0_lastNodIn 0 rfl rfl rfl dX4_latest_57 (fun z17 ez17 hz_z17 => ?_)
              refine g_nmW (mainW cA h) (fun M18 eM18 => ?_)
              have hz18 : (Zmain M18) := by rw [eM18]; exact ⟨hz16.1, hz16.2.1, hz16.2.2.1, hz16.2.2.2.1, hz16.2.2.2.2.1, hz16.2.2.2.2.2.1, hz16.2.2.2.2.2.2.1, hz16.2.2.2.2.2.2.2.1, hz16.2.2.2.2.2.2.2.2.1, hz16.2.2.2.2.2.2.2.2.2.1, hz_z17.1, hz_z17.2.1, hz_z17.2.2.1, hz_z17.2.2.2.1, hz_z17.2.2.2.2, hz16.2.2.2.2.2.2.2.2.2.2.2.2.2.2.2.1, hz16.2.2.2.2.2.2.2.2.2.2.2.2.2.2.2.2.1, hz16.2.2.2.2.2.2.2.2.2.2.2.2.2.2.2.2.2.1, hz16.2.2.2.2.2.2.2.2.2.2.2.2.2.2.2.2.2.2.1, hz16.2.2.2.2.2.2.2.2.2.2.2.2.2.2.2.2.2.2.2.1, hz16.2.2.2.2.2.2.2.2.2.2.2.2.2.2.2.2.2.2.2.2.1, hz16.2.2.2.2.2.2.2.2.2.2.2.2.2.2.2.2.2.2.2.2.2.1, hz16.2.2.2.2.2.2.2.2.2.2.2.2.2.2.2.2.2.2.2.2.2.2⟩
              refine g_nmi (fun x19 ex19 => ?_)
              refine g_istore C (pc := 60) [(6, .int x19), (0, .ref (h 0)), (1, .int p0), (3, .int v11), (4, .int v12), (5, .int v13)] dX4_latest_60 (by decide) rfl ?_
              refine g_iload C (pc := 62) dX4_latest_62 0 rfl ?_
              refine g_iload C (pc := 64) dX4_latest_64 4 rfl ?_
              refine g_icmp_le C (pc := 66) 76 dX4_latest_66 (by decide) (fun c20 => ?_) (fun c20 => ?_)
              · refine g_iincN C (pc := 76) 1 (fun y => [(5, .int y), (6, .int x19), (0, .ref (h 0)), (1, .int p0), (3, .int v11), (4, .int v12)]) dX4_latest_76 5 rfl cI_1 (by decide) (fun _ => rfl) (fun x21 ex21 => ?_)
                refine g_goto C (pc := 79) 42 dX4_latest_79 (by decide) ?_
                refine g_sub [2, 3, 4, 5, 0] rfl ?_
                exact ih M18 v11 v12 x21 hz18 (by rw [ex21]; exact lp_decE (d := 1) (by decide) (by decide) c15 hmu)
              · refine g_iload C (pc := 69) dX4_latest_69 0 rfl ?_
                refine g_istore C (pc := 71) [(4, .int x19), (6, .int x19), (0, .ref (h 0)), (1, .int p0), (3, .int v11), (5, .int v13)] dX4_latest_71 (by decide) rfl ?_
                refine g_iload C (pc := 73) dX4_latest_73 5 rfl ?_
                refine g_istore_n C (pc := 75) [(3, .int v13), (4, .int x19), (6, .int x19), (0, .ref (h 0)), (1, .int p0), (5, .int v13)] dX4_latest_75 (by decide) rfl ?_
                refine g_iincN C (pc := 76) 1 (fun y => [(5, .int y), (3, .int v13), (4, .int x19), (6, .int x19), (0, .ref (h 0)), (1, .int p0)]) dX4_latest_76 5 rfl cI_1 (by decide) (fun _ => rfl) (fun x22 ex22 => ?_)
                refine g_goto C (pc := 79) 42 dX4_latest_79 (by decide) ?_
                refine g_sub [4, 5, 1, 2, 0] rfl ?_
                exact ih M18 v13 x19 x22 hz18 (by rw [ex22]; exact lp_decE (d := 1) (by decide) (by decide) c15 hmu)
        refine g_sub [4, 5, 2, 1, 0] rfl ?_
        exact L42 _ M6 x9 x10 1 hz6 (Nat.lt_succ_self _)
      · refine g_iload_n C (pc := 31) dX4_latest_31 0 rfl ?_
        exact r_ei C rfl dX4_latest_32 hz6
    · refine g_icmp_le0 C (pc := 15) 22 dX4_latest_15 (by decide) (fun c3 => ?_) (fun c3 => ?_)
      · refine g_iconst C (pc := 22) dX4_latest_22 cI_0 ?_
        refine g_sub [0, 1] rfl ?_
        exact g_lf (if_pos c3) (Jv4 _ (Eq.symm (if_pos c3)))
      · refine g_iconst C (pc := 18) dX4_latest_18 cI_1 ?_
        refine g_goto C (pc := 19) 23 dX4_latest_19 (by decide) ?_
        refine g_sub [0, 1] rfl ?_
        exact g_lf (if_neg c3) (Jv4 _ (Eq.symm (if_neg c3)))
  · refine g_icmp_ge0 C (pc := 3) 10 dX4_latest_3 (by decide) (fun c1 => ?_) (fun c1 => ?_)
    · refine g_iconst C (pc := 10) dX4_latest_10 cI_0 ?_
      refine g_sub [0, 1] rfl ?_
      exact g_lf (if_pos c1) (Jv2 _ (Eq.symm (if_pos c1)))
    · refine g_iconst C (pc := 6) dX4_latest_6 cI_1 ?_
      refine g_goto C (pc := 7) 11 dX4_latest_7 (by decide) ?_
      refine g_sub [0, 1] rfl ?_
      exact g_lf (if_neg c1) (Jv2 _ (Eq.symm (if_neg c1)))
theorem inX4_dot_0 : ∀ w ∈ u_ws RX0 TX0 18, w ∈ wsX4_dot := by decide +kernel
theorem inX4_dot_4 : ∀ w ∈ u_ws RX4 TX4 8, w ∈ wsX4_dot := by decide +kernel
noncomputable def xX4_dot (M : St) (p0 : Int32) : Int32 × St := if 0 ≤ p0 then (if (xX1_size 60 (sh 11 M)) ≤ p0 then (((-9), M)) else (((xX1_at 60 (sh 11 M) p0), M))) else (nm (xX4_refuse M (-4)) fun z3 => nm (z3.2) fun M4 => (z3.1, M4))
set_option maxHeartbeats 4000000 in
set_option maxRecDepth 100000 in
theorem kX4_dot (l : Launch) (D : va_G) (cA : ClassId) (T : Nat × Nat × Nat) (h : Nat → Nat) (M : St) (p0 : Int32) (hz : (Zmain M)) : ∀ sz : Nat, Met l yX4_dot wsX4_dot { frames := 2, cells := 0, slots := 0, locals := 43 } (va_Pc [.ref (h 0), .int p0] (PreW D cA T (mainW cA h M) sz)) (va_Qi (fun r u => (r, u) = (xX4_dot M p0) ∧ (Zmain) u) (fun u => PostW D cA (va_A (mainW cA h M) sz) (mainW cA h u)) (va_A (mainW cA h M) sz)) 0 0 (va_A (mainW cA h M) sz) := by
  refine m_ei (Wf := mainW cA h) (inv := (Zmain)) (cc := cX4_dot) (maxL := 2) (own := RX4) (by decide) rfl rfl (Nat.le_of_ble_eq_true rfl) (fun {p e s m args below meth c} A C X => ?_)
  show G p l e { frames := 2, cells := 0, slots := 0, locals := 43 } s m args below meth c 0 0 D A (Qei below D cA A args s 0 0 (mainW cA h) (Zmain) X) 2 X (xX4_dot M p0) (mainW cA h M) 0 [(0, .ref (h 0)), (1, .int p0)] []
  unfold xX4_dot
  refine g_iload_n C (pc := 0) dX4_dot_0 1 rfl ?_
  refine g_if_ge C (pc := 1) 11 dX4_dot_1 (by decide) (fun c1 => ?_) (fun c1 => ?_)
  · refine g_iload_n C (pc := 11) dX4_dot_11 1 rfl ?_
    refine g_aload_n C (pc := 12) dX4_dot_12 0 rfl ?_
    refine g_get C (pc := 13) inX4_dot_4 rfl 0 (by decide) (List.mem_of_getElem? (i := 1) rfl) dX4_dot_13 0 rfl (.ref (h 1)) rfl ?_
    refine g_get C (pc := 16) inX4_dot_0 rfl 2 (by decide) (List.mem_of_getElem? (i := 2) rfl) dX4_dot_16 1 rfl (.ref (h 11)) rfl ?_
    refine g_Vpi C (pc := 19) (As := []) (kX1_size l D cA T 60 (sh 11 h) (sh 11 M) hz.2.2.2.2.1) (v_main_cells_11 cA h M) gX4_dot_X1_size rfl ⟨rfl, rfl⟩ ⟨Nat.le_of_ble_eq_true rfl, Nat.le_of_ble_eq_true rfl⟩ ⟨Nat.zero_le _, Nat.zero_le _⟩ rfl (Nat.le_of_ble_eq_true rfl) hdV_X1_size 0 rfl rfl rfl dX4_dot_19 ?_
    refine g_icmp_ge C (pc := 22) 39 dX4_dot_22 (by decide) (fun c2 => ?_) (fun c2 => ?_)
    · refine g_bipush C (pc := 39) dX4_dot_39 cB_m9 ?_
      exact r_ei C rfl dX4_dot_41 hz
    · refine g_aload_n C (pc := 25) dX4_dot_25 0 rfl ?_
      refine g_get C (pc := 26) inX4_dot_4 rfl 0 (by decide) (List.mem_of_getElem? (i := 1) rfl) dX4_dot_26 0 rfl (.ref (h 1)) rfl ?_
      refine g_get C (pc := 29) inX4_dot_0 rfl 2 (by decide) (List.mem_of_getElem? (i := 2) rfl) dX4_dot_29 1 rfl (.ref (h 11)) rfl ?_
      refine g_iload_n C (pc := 32) dX4_dot_32 1 rfl ?_
      refine g_Vpi C (pc := 33) (As := [.int p0]) (kX1_at l D cA T 60 (sh 11 h) (sh 11 M) p0 hz.2.2.2.2.1) (v_main_cells_11 cA h M) gX4_dot_X1_at rfl ⟨rfl, rfl⟩ ⟨Nat.le_of_ble_eq_true rfl, Nat.le_of_ble_eq_true rfl⟩ ⟨Nat.zero_le _, Nat.zero_le _⟩ rfl (Nat.le_of_ble_eq_true rfl) hdV_X1_at 0 rfl rfl rfl dX4_dot_33 ?_
      refine g_goto C (pc := 36) 41 dX4_dot_36 (by decide) ?_
      exact r_ei C rfl dX4_dot_41 hz
  · refine g_aload_n C (pc := 4) dX4_dot_4 0 rfl ?_
    refine g_bipush C (pc := 5) dX4_dot_5 cB_m4 ?_
    refine g_Vei C (pc := 7) (As := [.int (-4)]) (kX4_refuse l D cA T h M (-4) hz) (v_id (mainW cA h) M 56 (fun _ => rfl) rfl) gX4_dot_X4_refuse rfl ⟨rfl, rfl⟩ ⟨Nat.le_of_ble_eq_true rfl, Nat.le_of_ble_eq_true rfl⟩ ⟨Nat.zero_le _, Nat.zero_le _⟩ rfl (Nat.le_of_ble_eq_true rfl) hdV_X4_refuse 0 rfl rfl rfl dX4_dot_7 (fun z3 ez3 hz_z3 => ?_)
    refine g_nmW (mainW cA h) (fun M4 eM4 => ?_)
    have hz4 : (Zmain M4) := by rw [eM4]; exact hz_z3
    exact r_ei C rfl dX4_dot_10 hz4
theorem inX4_even_4 : ∀ w ∈ u_ws RX4 TX4 8, w ∈ wsX4_even := by decide +kernel
noncomputable def xX4_even_l13 : Nat → St → Int32 → Int32 → Int32 × St
  | 0, M, _, _ => (0, M)
  | k + 1, M, p0, v2 => if (xX0_gaps (sh 1 M)) ≤ v2 then (((-9), M)) else (if (if 0 ≤ ((xX0_gapAt (sh 1 M) v2) - (xX0_gapAt (sh 1 M) (v2 - 1))) then ((xX0_gapAt (sh 1 M) v2) - (xX0_gapAt (sh 1 M) (v2 - 1))) else 0 - ((xX0_gapAt (sh 1 M) v2) - (xX0_gapAt (sh 1 M) (v2 - 1)))) ≤ p0 then (nm (v2 + 1 : Int32) fun x5 => xX4_even_l13 k M p0 x5) else ((v2, M)))
noncomputable def xX4_even (M : St) (p0 : Int32) : Int32 × St := if 0 ≤ p0 then (xX4_even_l13 (mu 1 (xX0_gaps (sh 1 M)) + 1) M p0 1) else (nm (xX4_refuse M (-4)) fun z6 => nm (z6.2) fun M7 => (z6.1, M7))
set_option maxHeartbeats 4000000 in
set_option maxRecDepth 100000 in
theorem kX4_even (l : Launch) (D : va_G) (cA : ClassId) (T : Nat × Nat × Nat) (h : Nat → Nat) (M : St) (p0 : Int32) (hz : (Zmain M)) : ∀ sz : Nat, Met l yX4_even wsX4_even { frames := 3, cells := 0, slots := 0, locals := 62 } (va_Pc [.ref (h 0), .int p0] (PreW D cA T (mainW cA h M) sz)) (va_Qi (fun r u => (r, u) = (xX4_even M p0) ∧ (Zmain) u) (fun u => PostW D cA (va_A (mainW cA h M) sz) (mainW cA h u)) (va_A (mainW cA h M) sz)) 0 0 (va_A (mainW cA h M) sz) := by
  refine m_ei (Wf := mainW cA h) (inv := (Zmain)) (cc := cX4_even) (maxL := 3) (own := RX4) (by decide) rfl rfl (Nat.le_of_ble_eq_true rfl) (fun {p e s m args below meth c} A C X => ?_)
  show G p l e { frames := 3, cells := 0, slots := 0, locals := 62 } s m args below meth c 0 0 D A (Qei below D cA A args s 0 0 (mainW cA h) (Zmain) X) 3 X (xX4_even M p0) (mainW cA h M) 0 [(0, .ref (h 0)), (1, .int p0)] []
  unfold xX4_even
  refine g_iload_n C (pc := 0) dX4_even_0 1 rfl ?_
  refine g_if_ge C (pc := 1) 11 dX4_even_1 (by decide) (fun c1 => ?_) (fun c1 => ?_)
  · refine g_iconst C (pc := 11) dX4_even_11 cI_1 ?_
    refine g_istore_n C (pc := 12) [(2, .int 1), (0, .ref (h 0)), (1, .int p0)] dX4_even_12 (by decide) rfl ?_
    have L13 : ∀ (k : Nat) (v2 : Int32), mu v2 (xX0_gaps (sh 1 M)) < k → G p l e { frames := 3, cells := 0, slots := 0, locals := 62 } s m args below meth c 0 0 D A (Qei below D cA A args s 0 0 (mainW cA h) (Zmain) X) 3 X (xX4_even_l13 k M p0 v2) (mainW cA h M) 13 [(0, .ref (h 0)), (1, .int p0), (2, .int v2)] [] := by
      intro k
      induction k with
      | zero => intro v2 hmu; exact absurd hmu (Nat.not_lt_zero _)
      | succ k ih =>
        intro v2 hmu
        rw [xX4_even_l13]
        refine g_iload_n C (pc := 13) dX4_even_13 2 rfl ?_
        refine g_aload_n C (pc := 14) dX4_even_14 0 rfl ?_
        refine g_get C (pc := 15) inX4_even_4 rfl 0 (by decide) (List.mem_of_getElem? (i := 1) rfl) dX4_even_15 0 rfl (.ref (h 1)) rfl ?_
        refine g_Vpi C (pc := 18) (As := []) (kX0_gaps l D cA T (sh 1 h) (sh 1 M) ⟨hz.1, hz.2.1, hz.2.2.1, hz.2.2.2.1, hz.2.2.2.2.1⟩) (v_main_bird_1 cA h M) gX4_even_X0_gaps rfl ⟨rfl, rfl⟩ ⟨Nat.le_of_ble_eq_true rfl, Nat.le_of_ble_eq_true rfl⟩ ⟨Nat.zero_le _, Nat.zero_le _⟩ rfl (Nat.le_of_ble_eq_true rfl) hdV_X0_gaps 0 rfl rfl rfl dX4_even_18 ?_
        refine g_icmp_ge C (pc := 21) 58 dX4_even_21 (by decide) (fun c3 => ?_) (fun c3 => ?_)
        · refine g_bipush C (pc := 58) dX4_even_58 cB_m9 ?_
          exact r_ei C rfl dX4_even_60 hz
        · refine g_aload_n C (pc := 24) dX4_even_24 0 rfl ?_
          refine g_get C (pc := 25) inX4_even_4 rfl 0 (by decide) (List.mem_of_getElem? (i := 1) rfl) dX4_even_25 0 rfl (.ref (h 1)) rfl ?_
          refine g_iload_n C (pc := 28) dX4_even_28 2 rfl ?_
          refine g_Vpi C (pc := 29) (As := [.int v2]) (kX0_gapAt l D cA T (sh 1 h) (sh 1 M) v2 ⟨hz.1, hz.2.1, hz.2.2.1, hz.2.2.2.1, hz.2.2.2.2.1⟩) (v_main_bird_1 cA h M) gX4_even_X0_gapAt rfl ⟨rfl, rfl⟩ ⟨Nat.le_of_ble_eq_true rfl, Nat.le_of_ble_eq_true rfl⟩ ⟨Nat.zero_le _, Nat.zero_le _⟩ rfl (Nat.le_of_ble_eq_true rfl) hdV_X0_gapAt 0 rfl rfl rfl dX4_even_29 ?_
          refine g_aload_n C (pc := 32) dX4_even_32 0 rfl ?_
          refine g_get C (pc := 33) inX4_even_4 rfl 0 (by decide) (List.mem_of_getElem? (i := 1) rfl) dX4_even_33 0 rfl (.ref (h 1)) rfl ?_
          refine g_iload_n C (pc := 36) dX4_even_36 2 rfl ?_
          refine g_iconst C (pc := 37) dX4_even_37 cI_1 ?_
          refine g_isub C (pc := 38) dX4_even_38 ?_
          refine g_Vpi C (pc := 39) (As := [.int (v2 - 1)]) (kX0_gapAt l D cA T (sh 1 h) (sh 1 M) (v2 - 1) ⟨hz.1, hz.2.1, hz.2.2.1, hz.2.2.2.1, hz.2.2.2.2.1⟩) (v_main_bird_1 cA h M) gX4_even_X0_gapAt rfl ⟨rfl, rfl⟩ ⟨Nat.le_of_ble_eq_true rfl, Nat.le_of_ble_eq_true rfl⟩ ⟨Nat.zero_le _, Nat.zero_le _⟩ rfl (Nat.le_of_ble_eq_true rfl) hdV_X0_gapAt 0 rfl rfl rfl dX4_even_39 ?_
          refine g_isub C (pc := 42) dX4_even_42 ?_
          refine g_abs C (pc := 43) (List.mem_of_getElem? (i := 2) rfl) (List.mem_of_getElem? (i := 3) rfl) (List.mem_of_getElem? (i := 4) rfl) (List.mem_of_getElem? (i := 5) rfl) ⟨Nat.le_of_ble_eq_true rfl, Nat.le_of_ble_eq_true rfl, Nat.zero_le _, Nat.zero_le _⟩ dX4_even_43 ?_
          refine g_iload_n C (pc := 46) dX4_even_46 1 rfl ?_
          refine g_icmp_le C (pc := 47) 52 dX4_even_47 (by decide) (fun c4 => ?_) (fun c4 => ?_)
          · refine g_iincN C (pc := 52) 1 (fun y => [(2, .int y), (0, .ref (h 0)), (1, .int p0)]) dX4_even_52 2 rfl cI_1 (by decide) (fun _ => rfl) (fun x5 ex5 => ?_)
            refine g_goto C (pc := 55) 13 dX4_even_55 (by decide) ?_
            refine g_sub [1, 2, 0] rfl ?_
            exact ih x5 (by rw [ex5]; exact lp_dec c3 hmu)
          · refine g_iload_n C (pc := 50) dX4_even_50 2 rfl ?_
            exact r_ei C rfl dX4_even_51 hz
    refine g_sub [1, 2, 0] rfl ?_
    exact L13 _ 1 (Nat.lt_succ_self _)
  · refine g_aload_n C (pc := 4) dX4_even_4 0 rfl ?_
    refine g_bipush C (pc := 5) dX4_even_5 cB_m4 ?_
    refine g_Vei C (pc := 7) (As := [.int (-4)]) (kX4_refuse l D cA T h M (-4) hz) (v_id (mainW cA h) M 56 (fun _ => rfl) rfl) gX4_even_X4_refuse rfl ⟨rfl, rfl⟩ ⟨Nat.le_of_ble_eq_true rfl, Nat.le_of_ble_eq_true rfl⟩ ⟨Nat.zero_le _, Nat.zero_le _⟩ rfl (Nat.le_of_ble_eq_true rfl) hdV_X4_refuse 0 rfl rfl rfl dX4_even_7 (fun z6 ez6 hz_z6 => ?_)
    refine g_nmW (mainW cA h) (fun M7 eM7 => ?_)
    have hz7 : (Zmain M7) := by rw [eM7]; exact hz_z6
    exact r_ei C rfl dX4_even_10 hz7
theorem inX4_longer_4 : ∀ w ∈ u_ws RX4 TX4 8, w ∈ wsX4_longer := by decide +kernel
noncomputable def xX4_longer_j9 (M : St) : Int32 × St := nm (xX4_refuse M (-2)) fun z1 => nm (z1.2) fun M2 => (z1.1, M2)
noncomputable def xX4_longer_l20 : Nat → St → Int32 → Int32 → Int32 → Int32 × St
  | 0, M, _, _, _ => (0, M)
  | k + 1, M, p0, v5, v6 => if (xX0_gaps (sh 1 M)) ≤ v6 then ((v5, M)) else (nm (((xX0_gapAt (sh 1 M) v6) - (xX0_gapAt (sh 1 M) (v6 - 1))) : Int32) fun x8 => if p0 = 0 then (if x8 ≤ 0 then (nm (v6 + 1 : Int32) fun x15 => xX4_longer_l20 k M p0 v5 x15) else (nm (v5 + 1 : Int32) fun x16 => nm (v6 + 1 : Int32) fun x17 => xX4_longer_l20 k M p0 x16 x17)) else (if 0 ≤ x8 then (nm (v6 + 1 : Int32) fun x11 => xX4_longer_l20 k M p0 v5 x11) else (nm (v5 + 1 : Int32) fun x12 => nm (v6 + 1 : Int32) fun x13 => xX4_longer_l20 k M p0 x12 x13)))
noncomputable def xX4_longer (M : St) (p0 : Int32) : Int32 × St := if p0 < 0 then (xX4_longer_j9 M ) else (if p0 ≤ 1 then (xX4_longer_l20 (mu 1 (xX0_gaps (sh 1 M)) + 1) M p0 0 1) else (xX4_longer_j9 M ))
set_option maxHeartbeats 4000000 in
set_option maxRecDepth 100000 in
theorem kX4_longer (l : Launch) (D : va_G) (cA : ClassId) (T : Nat × Nat × Nat) (h : Nat → Nat) (M : St) (p0 : Int32) (hz : (Zmain M)) : ∀ sz : Nat, Met l yX4_longer wsX4_longer { frames := 3, cells := 0, slots := 0, locals := 62 } (va_Pc [.ref (h 0), .int p0] (PreW D cA T (mainW cA h M) sz)) (va_Qi (fun r u => (r, u) = (xX4_longer M p0) ∧ (Zmain) u) (fun u => PostW D cA (va_A (mainW cA h M) sz) (mainW cA h u)) (va_A (mainW cA h M) sz)) 0 0 (va_A (mainW cA h M) sz) := by
  refine m_ei (Wf := mainW cA h) (inv := (Zmain)) (cc := cX4_longer) (maxL := 5) (own := RX4) (by decide) rfl rfl (Nat.le_of_ble_eq_true rfl) (fun {p e s m args below meth c} A C X => ?_)
  show G p l e { frames := 3, cells := 0, slots := 0, locals := 62 } s m args below meth c 0 0 D A (Qei below D cA A args s 0 0 (mainW cA h) (Zmain) X) 5 X (xX4_longer M p0) (mainW cA h M) 0 [(0, .ref (h 0)), (1, .int p0)] []
  unfold xX4_longer
  refine g_iload_n C (pc := 0) dX4_longer_0 1 rfl ?_
  have J9 : ∀ (_ : True), G p l e { frames := 3, cells := 0, slots := 0, locals := 62 } s m args below meth c 0 0 D A (Qei below D cA A args s 0 0 (mainW cA h) (Zmain) X) 5 X (xX4_longer_j9 M ) (mainW cA h M) 9 [(0, .ref (h 0))] [] := by
    intro _
    unfold xX4_longer_j9
    refine g_aload_n C (pc := 9) dX4_longer_9 0 rfl ?_
    refine g_bipush C (pc := 10) dX4_longer_10 cB_m2 ?_
    refine g_Vei C (pc := 12) (As := [.int (-2)]) (kX4_refuse l D cA T h M (-2) hz) (v_id (mainW cA h) M 56 (fun _ => rfl) rfl) gX4_longer_X4_refuse rfl ⟨rfl, rfl⟩ ⟨Nat.le_of_ble_eq_true rfl, Nat.le_of_ble_eq_true rfl⟩ ⟨Nat.zero_le _, Nat.zero_le _⟩ rfl (Nat.le_of_ble_eq_true rfl) hdV_X4_refuse 0 rfl rfl rfl dX4_longer_12 (fun z1 ez1 hz_z1 => ?_)
    refine g_nmW (mainW cA h) (fun M2 eM2 => ?_)
    have hz2 : (Zmain M2) := by rw [eM2]; exact hz_z1
    exact r_ei C rfl dX4_longer_15 hz2
  refine g_if_lt C (pc := 1) 9 dX4_longer_1 (by decide) (fun c3 => ?_) (fun c3 => ?_)
  · refine g_sub [0] rfl ?_
    exact J9 trivial
  · refine g_iload_n C (pc := 4) dX4_longer_4 1 rfl ?_
    refine g_iconst C (pc := 5) dX4_longer_5 cI_1 ?_
    refine g_icmp_le C (pc := 6) 16 dX4_longer_6 (by decide) (fun c4 => ?_) (fun c4 => ?_)
    · refine g_iconst C (pc := 16) dX4_longer_16 cI_0 ?_
      refine g_istore_n C (pc := 17) [(2, .int 0), (0, .ref (h 0)), (1, .int p0)] dX4_longer_17 (by decide) rfl ?_
      refine g_iconst C (pc := 18) dX4_longer_18 cI_1 ?_
      refine g_istore_n C (pc := 19) [(3, .int 1), (2, .int 0), (0, .ref (h 0)), (1, .int p0)] dX4_longer_19 (by decide) rfl ?_
      have L20 : ∀ (k : Nat) (v5 : Int32) (v6 : Int32), mu v6 (xX0_gaps (sh 1 M)) < k → G p l e { frames := 3, cells := 0, slots := 0, locals := 62 } s m args below meth c 0 0 D A (Qei below D cA A args s 0 0 (mainW cA h) (Zmain) X) 5 X (xX4_longer_l20 k M p0 v5 v6) (mainW cA h M) 20 [(0, .ref (h 0)), (1, .int p0), (2, .int v5), (3, .int v6)] [] := by
        intro k
        induction k with
        | zero => intro v5 v6 hmu; exact absurd hmu (Nat.not_lt_zero _)
        | succ k ih =>
          intro v5 v6 hmu
          rw [xX4_longer_l20]
          refine g_iload_n C (pc := 20) dX4_longer_20 3 rfl ?_
          refine g_aload_n C (pc := 21) dX4_longer_21 0 rfl ?_
          refine g_get C (pc := 22) inX4_longer_4 rfl 0 (by decide) (List.mem_of_getElem? (i := 1) rfl) dX4_longer_22 0 rfl (.ref (h 1)) rfl ?_
          refine g_Vpi C (pc := 25) (As := []) (kX0_gaps l D cA T (sh 1 h) (sh 1 M) ⟨hz.1, hz.2.1, hz.2.2.1, hz.2.2.2.1, hz.2.2.2.2.1⟩) (v_main_bird_1 cA h M) gX4_longer_X0_gaps rfl ⟨rfl, rfl⟩ ⟨Nat.le_of_ble_eq_true rfl, Nat.le_of_ble_eq_true rfl⟩ ⟨Nat.zero_le _, Nat.zero_le _⟩ rfl (Nat.le_of_ble_eq_true rfl) hdV_X0_gaps 0 rfl rfl rfl dX4_longer_25 ?_
          refine g_icmp_ge C (pc := 28) 78 dX4_longer_28 (by decide) (fun c7 => ?_) (fun c7 => ?_)
          · refine g_iload_n C (pc := 78) dX4_longer_78 2 rfl ?_
            exact r_ei C rfl dX4_longer_79 hz
          · refine g_aload_n C (pc := 31) dX4_longer_31 0 rfl ?_
            refine g_get C (pc := 32) inX4_longer_4 rfl 0 (by decide) (List.mem_of_getElem? (i := 1) rfl) dX4_longer_32 0 rfl (.ref (h 1)) rfl ?_
            refine g_iload_n C (pc := 35) dX4_longer_35 3 rfl ?_
            refine g_Vpi C (pc := 36) (As := [.int v6]) (kX0_gapAt l D cA T (sh 1 h) (sh 1 M) v6 ⟨hz.1, hz.2.1, hz.2.2.1, hz.2.2.2.1, hz.2.2.2.2.1⟩) (v_main_bird_1 cA h M) gX4_longer_X0_gapAt rfl ⟨rfl, rfl⟩ ⟨Nat.le_of_ble_eq_true rfl, Nat.le_of_ble_eq_true rfl⟩ ⟨Nat.zero_le _, Nat.zero_le _⟩ rfl (Nat.le_of_ble_eq_true rfl) hdV_X0_gapAt 0 rfl rfl rfl dX4_longer_36 ?_
            refine g_aload_n C (pc := 39) dX4_longer_39 0 rfl ?_
            refine g_get C (pc := 40) inX4_longer_4 rfl 0 (by decide) (List.mem_of_getElem? (i := 1) rfl) dX4_longer_40 0 rfl (.ref (h 1)) rfl ?_
            refine g_iload_n C (pc := 43) dX4_longer_43 3 rfl ?_
            refine g_iconst C (pc := 44) dX4_longer_44 cI_1 ?_
            refine g_isub C (pc := 45) dX4_longer_45 ?_
            refine g_Vpi C (pc := 46) (As := [.int (v6 - 1)]) (kX0_gapAt l D cA T (sh 1 h) (sh 1 M) (v6 - 1) ⟨hz.1, hz.2.1, hz.2.2.1, hz.2.2.2.1, hz.2.2.2.2.1⟩) (v_main_bird_1 cA h M) gX4_longer_X0_gapAt rfl ⟨rfl, rfl⟩ ⟨Nat.le_of_ble_eq_true rfl, Nat.le_of_ble_eq_true rfl⟩ ⟨Nat.zero_le _, Nat.zero_le _⟩ rfl (Nat.le_of_ble_eq_true rfl) hdV_X0_gapAt 0 rfl rfl rfl dX4_longer_46 ?_
            refine g_isub C (pc := 49) dX4_longer_49 ?_
            refine g_nmi (fun x8 ex8 => ?_)
            refine g_istore C (pc := 50) [(4, .int x8), (0, .ref (h 0)), (1, .int p0), (2, .int v5), (3, .int v6)] dX4_longer_50 (by decide) rfl ?_
            refine g_iload_n C (pc := 52) dX4_longer_52 2 rfl ?_
            refine g_if_ne C (pc := 53) 64 dX4_longer_53 (by decide) (fun c9 => ?_) (fun c9 => ?_)
            · refine g_iload C (pc := 64) dX4_longer_64 0 rfl ?_
              refine g_if_ge C (pc := 66) 72 dX4_longer_66 (by decide) (fun c10 => ?_) (fun c10 => ?_)
              · refine g_iincN C (pc := 72) 1 (fun y => [(3, .int y), (4, .int x8), (0, .ref (h 0)), (1, .int p0), (2, .int v5)]) dX4_longer_72 4 rfl cI_1 (by decide) (fun _ => rfl) (fun x11 ex11 => ?_)
                refine g_goto C (pc := 75) 20 dX4_longer_75 (by decide) ?_
                refine g_sub [2, 3, 4, 0] rfl ?_
                exact ih v5 x11 (by rw [ex11]; exact lp_dec c7 hmu)
              · refine g_iincN C (pc := 69) 1 (fun y => [(2, .int y), (4, .int x8), (0, .ref (h 0)), (1, .int p0), (3, .int v6)]) dX4_longer_69 3 rfl cI_1 (by decide) (fun _ => rfl) (fun x12 ex12 => ?_)
                refine g_iincN C (pc := 72) 1 (fun y => [(3, .int y), (2, .int x12), (4, .int x8), (0, .ref (h 0)), (1, .int p0)]) dX4_longer_72 4 rfl cI_1 (by decide) (fun _ => rfl) (fun x13 ex13 => ?_)
                refine g_goto C (pc := 75) 20 dX4_longer_75 (by decide) ?_
                refine g_sub [3, 4, 1, 0] rfl ?_
                exact ih x12 x13 (by rw [ex13]; exact lp_dec c7 hmu)
            · refine g_iload C (pc := 56) dX4_longer_56 0 rfl ?_
              refine g_if_le C (pc := 58) 72 dX4_longer_58 (by decide) (fun c14 => ?_) (fun c14 => ?_)
              · refine g_iincN C (pc := 72) 1 (fun y => [(3, .int y), (4, .int x8), (0, .ref (h 0)), (1, .int p0), (2, .int v5)]) dX4_longer_72 4 rfl cI_1 (by decide) (fun _ => rfl) (fun x15 ex15 => ?_)
                refine g_goto C (pc := 75) 20 dX4_longer_75 (by decide) ?_
                refine g_sub [2, 3, 4, 0] rfl ?_
                exact ih v5 x15 (by rw [ex15]; exact lp_dec c7 hmu)
              · refine g_goto C (pc := 61) 69 dX4_longer_61 (by decide) ?_
                refine g_iincN C (pc := 69) 1 (fun y => [(2, .int y), (4, .int x8), (0, .ref (h 0)), (1, .int p0), (3, .int v6)]) dX4_longer_69 3 rfl cI_1 (by decide) (fun _ => rfl) (fun x16 ex16 => ?_)
                refine g_iincN C (pc := 72) 1 (fun y => [(3, .int y), (2, .int x16), (4, .int x8), (0, .ref (h 0)), (1, .int p0)]) dX4_longer_72 4 rfl cI_1 (by decide) (fun _ => rfl) (fun x17 ex17 => ?_)
                refine g_goto C (pc := 75) 20 dX4_longer_75 (by decide) ?_
                refine g_sub [3, 4, 1, 0] rfl ?_
                exact ih x16 x17 (by rw [ex17]; exact lp_dec c7 hmu)
      refine g_sub [2, 3, 1, 0] rfl ?_
      exact L20 _ 0 1 (Nat.lt_succ_self _)
    · refine g_sub [0] rfl ?_
      exact J9 trivial
theorem inX4_slow_4 : ∀ w ∈ u_ws RX4 TX4 8, w ∈ wsX4_slow := by decide +kernel
noncomputable def xX4_slow_l52 : Nat → St → Int64 → Int32 → Int32 × St
  | 0, M6, _, _ => (0, M6)
  | k + 1, M6, x9, v10 => if (xX0_gaps (sh 1 M6)) ≤ v10 then (((-9), M6)) else (if (lg_cmp (((xX0_gapAt (sh 1 M6) v10) : Int32).toInt64) x9) ≤ 0 then (nm (v10 + 1 : Int32) fun x13 => xX4_slow_l52 k M6 x9 x13) else ((v10, M6)))
noncomputable def xX4_slow (M : St) (p0 : Int32) : Int32 × St := nm (if 0 ≤ p0 then (0) else (1) : Int32) fun v2 => nm (if p0 ≤ 999 then (0) else (1) : Int32) fun v4 => nm (xX4_outside M v2 v4) fun z5 => nm (z5.2) fun M6 => nm (z5.1 : Int32) fun x7 => if x7 = 0 then (nm ((((p0 : Int32).toInt64 * ((xX0_gapAt (sh 1 M6) 0) : Int32).toInt64) / 10) : Int64) fun x9 => xX4_slow_l52 (mu 1 (xX0_gaps (sh 1 M6)) + 1) M6 x9 1) else ((x7, M6))
set_option maxHeartbeats 4000000 in
set_option maxRecDepth 100000 in
theorem kX4_slow (l : Launch) (D : va_G) (cA : ClassId) (T : Nat × Nat × Nat) (h : Nat → Nat) (M : St) (p0 : Int32) (hz : (Zmain M)) : ∀ sz : Nat, Met l yX4_slow wsX4_slow { frames := 3, cells := 0, slots := 0, locals := 65 } (va_Pc [.ref (h 0), .int p0] (PreW D cA T (mainW cA h M) sz)) (va_Qi (fun r u => (r, u) = (xX4_slow M p0) ∧ (Zmain) u) (fun u => PostW D cA (va_A (mainW cA h M) sz) (mainW cA h u)) (va_A (mainW cA h M) sz)) 0 0 (va_A (mainW cA h M) sz) := by
  refine m_ei (Wf := mainW cA h) (inv := (Zmain)) (cc := cX4_slow) (maxL := 6) (own := RX4) (by decide) rfl rfl (Nat.le_of_ble_eq_true rfl) (fun {p e s m args below meth c} A C X => ?_)
  show G p l e { frames := 3, cells := 0, slots := 0, locals := 65 } s m args below meth c 0 0 D A (Qei below D cA A args s 0 0 (mainW cA h) (Zmain) X) 6 X (xX4_slow M p0) (mainW cA h M) 0 [(0, .ref (h 0)), (1, .int p0)] []
  unfold xX4_slow
  refine g_aload_n C (pc := 0) dX4_slow_0 0 rfl ?_
  refine g_iload_n C (pc := 1) dX4_slow_1 1 rfl ?_
  refine g_join (α := Int32) (fun v2 => [(0, .ref (h 0)), (1, .int p0)]) (fun v2 => [.int v2, .ref (h 0)]) 10 (fun v2 ev2 => ?_) (fun Jv2 => ?_)
  · refine g_iload_n C (pc := 10) dX4_slow_10 1 rfl ?_
    refine g_sipush C (pc := 11) dX4_slow_11 cS_999 ?_
    refine g_join (α := Int32) (fun v4 => [(0, .ref (h 0)), (1, .int p0)]) (fun v4 => [.int v4, .int v2, .ref (h 0)]) 22 (fun v4 ev4 => ?_) (fun Jv4 => ?_)
    · refine g_Vei C (pc := 22) (As := [.int v2, .int v4]) (kX4_outside l D cA T h M v2 v4 hz) (v_id (mainW cA h) M 56 (fun _ => rfl) rfl) gX4_slow_X4_outside rfl ⟨rfl, rfl⟩ ⟨Nat.le_of_ble_eq_true rfl, Nat.le_of_ble_eq_true rfl⟩ ⟨Nat.zero_le _, Nat.zero_le _⟩ rfl (Nat.le_of_ble_eq_true rfl) hdV_X4_outside 0 rfl rfl rfl dX4_slow_22 (fun z5 ez5 hz_z5 => ?_)
      refine g_nmW (mainW cA h) (fun M6 eM6 => ?_)
      have hz6 : (Zmain M6) := by rw [eM6]; exact hz_z5
      refine g_nmi (fun x7 ex7 => ?_)
      refine g_istore_n C (pc := 25) [(2, .int x7), (0, .ref (h 0)), (1, .int p0)] dX4_slow_25 (by decide) rfl ?_
      refine g_iload_n C (pc := 26) dX4_slow_26 0 rfl ?_
      refine g_if_eq C (pc := 27) 32 dX4_slow_27 (by decide) (fun c8 => ?_) (fun c8 => ?_)
      · refine g_iload_n C (pc := 32) dX4_slow_32 2 rfl ?_
        refine g_i2l C (pc := 33) dX4_slow_33 rfl ?_
        refine g_aload_n C (pc := 34) dX4_slow_34 1 rfl ?_
        refine g_get C (pc := 35) inX4_slow_4 rfl 0 (by decide) (List.mem_of_getElem? (i := 1) rfl) dX4_slow_35 0 rfl (.ref (h 1)) rfl ?_
        refine g_iconst C (pc := 38) dX4_slow_38 cI_0 ?_
        refine g_Vpi C (pc := 39) (As := [.int 0]) (kX0_gapAt l D cA T (sh 1 h) (sh 1 M6) 0 ⟨hz6.1, hz6.2.1, hz6.2.2.1, hz6.2.2.2.1, hz6.2.2.2.2.1⟩) (v_main_bird_1 cA h M6) gX4_slow_X0_gapAt rfl ⟨rfl, rfl⟩ ⟨Nat.le_of_ble_eq_true rfl, Nat.le_of_ble_eq_true rfl⟩ ⟨Nat.zero_le _, Nat.zero_le _⟩ rfl (Nat.le_of_ble_eq_true rfl) hdV_X0_gapAt 0 rfl rfl rfl dX4_slow_39 ?_
        refine g_i2l C (pc := 42) dX4_slow_42 rfl ?_
        refine g_lmul C (pc := 43) dX4_slow_43 ?_
        refine g_ldc2 C (pc := 44) (v := 10) dX4_slow_44 (List.mem_of_getElem? (i := 2) rfl) ?_
        refine g_ldiv C (pc := 47) dX4_slow_47 nzL_10 ?_
        refine g_nml (fun x9 ex9 => ?_)
        refine g_lstore_n C (pc := 48) [(3, .long x9), (2, .int x7), (0, .ref (h 0)), (1, .int p0)] dX4_slow_48 (by decide) rfl ?_
        refine g_iconst C (pc := 49) dX4_slow_49 cI_1 ?_
        refine g_istore C (pc := 50) [(5, .int 1), (3, .long x9), (2, .int x7), (0, .ref (h 0)), (1, .int p0)] dX4_slow_50 (by decide) rfl ?_
        have L52 : ∀ (k : Nat) (v10 : Int32), mu v10 (xX0_gaps (sh 1 M6)) < k → G p l e { frames := 3, cells := 0, slots := 0, locals := 65 } s m args below meth c 0 0 D A (Qei below D cA A args s 0 0 (mainW cA h) (Zmain) X) 6 X (xX4_slow_l52 k M6 x9 v10) (mainW cA h M6) 52 [(0, .ref (h 0)), (3, .long x9), (5, .int v10)] [] := by
          intro k
          induction k with
          | zero => intro v10 hmu; exact absurd hmu (Nat.not_lt_zero _)
          | succ k ih =>
            intro v10 hmu
            rw [xX4_slow_l52]
            refine g_iload C (pc := 52) dX4_slow_52 2 rfl ?_
            refine g_aload_n C (pc := 54) dX4_slow_54 0 rfl ?_
            refine g_get C (pc := 55) inX4_slow_4 rfl 0 (by decide) (List.mem_of_getElem? (i := 1) rfl) dX4_slow_55 0 rfl (.ref (h 1)) rfl ?_
            refine g_Vpi C (pc := 58) (As := []) (kX0_gaps l D cA T (sh 1 h) (sh 1 M6) ⟨hz6.1, hz6.2.1, hz6.2.2.1, hz6.2.2.2.1, hz6.2.2.2.2.1⟩) (v_main_bird_1 cA h M6) gX4_slow_X0_gaps rfl ⟨rfl, rfl⟩ ⟨Nat.le_of_ble_eq_true rfl, Nat.le_of_ble_eq_true rfl⟩ ⟨Nat.zero_le _, Nat.zero_le _⟩ rfl (Nat.le_of_ble_eq_true rfl) hdV_X0_gaps 0 rfl rfl rfl dX4_slow_58 ?_
            refine g_icmp_ge C (pc := 61) 88 dX4_slow_61 (by decide) (fun c11 => ?_) (fun c11 => ?_)
            · refine g_bipush C (pc := 88) dX4_slow_88 cB_m9 ?_
              exact r_ei C rfl dX4_slow_90 hz6
            · refine g_aload_n C (pc := 64) dX4_slow_64 0 rfl ?_
              refine g_get C (pc := 65) inX4_slow_4 rfl 0 (by decide) (List.mem_of_getElem? (i := 1) rfl) dX4_slow_65 0 rfl (.ref (h 1)) rfl ?_
              refine g_iload C (pc := 68) dX4_slow_68 2 rfl ?_
              refine g_Vpi C (pc := 70) (As := [.int v10]) (kX0_gapAt l D cA T (sh 1 h) (sh 1 M6) v10 ⟨hz6.1, hz6.2.1, hz6.2.2.1, hz6.2.2.2.1, hz6.2.2.2.2.1⟩) (v_main_bird_1 cA h M6) gX4_slow_X0_gapAt rfl ⟨rfl, rfl⟩ ⟨Nat.le_of_ble_eq_true rfl, Nat.le_of_ble_eq_true rfl⟩ ⟨Nat.zero_le _, Nat.zero_le _⟩ rfl (Nat.le_of_ble_eq_true rfl) hdV_X0_gapAt 0 rfl rfl rfl dX4_slow_70 ?_
              refine g_i2l C (pc := 73) dX4_slow_73 rfl ?_
              refine g_lload_n C (pc := 74) dX4_slow_74 1 rfl ?_
              refine g_lcmp C (pc := 75) dX4_slow_75 ?_
              refine g_if_le C (pc := 76) 82 dX4_slow_76 (by decide) (fun c12 => ?_) (fun c12 => ?_)
              · refine g_iincN C (pc := 82) 1 (fun y => [(5, .int y), (0, .ref (h 0)), (3, .long x9)]) dX4_slow_82 2 rfl cI_1 (by decide) (fun _ => rfl) (fun x13 ex13 => ?_)
                refine g_goto C (pc := 85) 52 dX4_slow_85 (by decide) ?_
                refine g_sub [1, 2, 0] rfl ?_
                exact ih x13 (by rw [ex13]; exact lp_dec c11 hmu)
              · refine g_iload C (pc := 79) dX4_slow_79 2 rfl ?_
                exact r_ei C rfl dX4_slow_81 hz6
        refine g_sub [3, 1, 0] rfl ?_
        exact L52 _ 1 (Nat.lt_succ_self _)
      · refine g_iload_n C (pc := 30) dX4_slow_30 0 rfl ?_
        exact r_ei C rfl dX4_slow_31 hz6
    · refine g_icmp_le0 C (pc := 14) 21 dX4_slow_14 (by decide) (fun c3 => ?_) (fun c3 => ?_)
      · refine g_iconst C (pc := 21) dX4_slow_21 cI_0 ?_
        refine g_sub [0, 1] rfl ?_
        exact g_lf (if_pos c3) (Jv4 _ (Eq.symm (if_pos c3)))
      · refine g_iconst C (pc := 17) dX4_slow_17 cI_1 ?_
        refine g_goto C (pc := 18) 22 dX4_slow_18 (by decide) ?_
        refine g_sub [0, 1] rfl ?_
        exact g_lf (if_neg c3) (Jv4 _ (Eq.symm (if_neg c3)))
  · refine g_if_ge0 C (pc := 2) 9 dX4_slow_2 (by decide) (fun c1 => ?_) (fun c1 => ?_)
    · refine g_iconst C (pc := 9) dX4_slow_9 cI_0 ?_
      refine g_sub [0, 1] rfl ?_
      exact g_lf (if_pos c1) (Jv2 _ (Eq.symm (if_pos c1)))
    · refine g_iconst C (pc := 5) dX4_slow_5 cI_1 ?_
      refine g_goto C (pc := 6) 10 dX4_slow_6 (by decide) ?_
      refine g_sub [0, 1] rfl ?_
      exact g_lf (if_neg c1) (Jv2 _ (Eq.symm (if_neg c1)))
theorem inX4_hour_0 : ∀ w ∈ u_ws RX0 TX0 18, w ∈ wsX4_hour := by decide +kernel
theorem inX4_hour_4 : ∀ w ∈ u_ws RX4 TX4 8, w ∈ wsX4_hour := by decide +kernel
noncomputable def xX4_hour_l24 : Nat → St → Int64 → Int32 → Int32 → Int32 × St
  | 0, M, _, _, _ => (0, M)
  | k + 1, M, x2, v3, v4 => if (xX1_size 60 (sh 11 M)) ≤ v4 then ((v3, M)) else (nm ((xX1_at 60 (sh 11 M) v4) : Int32) fun x6 => if (lg_cmp ((x6 : Int32).toInt64) x2) < 0 then (nm (v4 + 1 : Int32) fun x8 => xX4_hour_l24 k M x2 v3 x8) else (if 0 ≤ (lg_cmp ((x6 : Int32).toInt64) (x2 + 100)) then (nm (v4 + 1 : Int32) fun x10 => xX4_hour_l24 k M x2 v3 x10) else (nm (v3 + 1 : Int32) fun x11 => nm (v4 + 1 : Int32) fun x12 => xX4_hour_l24 k M x2 x11 x12)))
noncomputable def xX4_hour (M : St) (p0 : Int32) : Int32 × St := if 0 ≤ p0 then (nm ((100 * (p0 : Int32).toInt64) : Int64) fun x2 => xX4_hour_l24 (mu 0 (xX1_size 60 (sh 11 M)) + 1) M x2 0 0) else (nm (xX4_refuse M (-4)) fun z13 => nm (z13.2) fun M14 => (z13.1, M14))
set_option maxHeartbeats 4000000 in
set_option maxRecDepth 100000 in
theorem kX4_hour (l : Launch) (D : va_G) (cA : ClassId) (T : Nat × Nat × Nat) (h : Nat → Nat) (M : St) (p0 : Int32) (hz : (Zmain M)) : ∀ sz : Nat, Met l yX4_hour wsX4_hour { frames := 2, cells := 0, slots := 0, locals := 43 } (va_Pc [.ref (h 0), .int p0] (PreW D cA T (mainW cA h M) sz)) (va_Qi (fun r u => (r, u) = (xX4_hour M p0) ∧ (Zmain) u) (fun u => PostW D cA (va_A (mainW cA h M) sz) (mainW cA h u)) (va_A (mainW cA h M) sz)) 0 0 (va_A (mainW cA h M) sz) := by
  refine m_ei (Wf := mainW cA h) (inv := (Zmain)) (cc := cX4_hour) (maxL := 7) (own := RX4) (by decide) rfl rfl (Nat.le_of_ble_eq_true rfl) (fun {p e s m args below meth c} A C X => ?_)
  show G p l e { frames := 2, cells := 0, slots := 0, locals := 43 } s m args below meth c 0 0 D A (Qei below D cA A args s 0 0 (mainW cA h) (Zmain) X) 7 X (xX4_hour M p0) (mainW cA h M) 0 [(0, .ref (h 0)), (1, .int p0)] []
  unfold xX4_hour
  refine g_iload_n C (pc := 0) dX4_hour_0 1 rfl ?_
  refine g_if_ge C (pc := 1) 11 dX4_hour_1 (by decide) (fun c1 => ?_) (fun c1 => ?_)
  · refine g_ldc2 C (pc := 11) (v := 100) dX4_hour_11 (List.mem_of_getElem? (i := 1) rfl) ?_
    refine g_iload_n C (pc := 14) dX4_hour_14 1 rfl ?_
    refine g_i2l C (pc := 15) dX4_hour_15 rfl ?_
    refine g_lmul C (pc := 16) dX4_hour_16 ?_
    refine g_nml (fun x2 ex2 => ?_)
    refine g_lstore_n C (pc := 17) [(2, .long x2), (0, .ref (h 0)), (1, .int p0)] dX4_hour_17 (by decide) rfl ?_
    refine g_iconst C (pc := 18) dX4_hour_18 cI_0 ?_
    refine g_istore C (pc := 19) [(4, .int 0), (2, .long x2), (0, .ref (h 0)), (1, .int p0)] dX4_hour_19 (by decide) rfl ?_
    refine g_iconst C (pc := 21) dX4_hour_21 cI_0 ?_
    refine g_istore C (pc := 22) [(5, .int 0), (4, .int 0), (2, .long x2), (0, .ref (h 0)), (1, .int p0)] dX4_hour_22 (by decide) rfl ?_
    have L24 : ∀ (k : Nat) (v3 : Int32) (v4 : Int32), mu v4 (xX1_size 60 (sh 11 M)) < k → G p l e { frames := 2, cells := 0, slots := 0, locals := 43 } s m args below meth c 0 0 D A (Qei below D cA A args s 0 0 (mainW cA h) (Zmain) X) 7 X (xX4_hour_l24 k M x2 v3 v4) (mainW cA h M) 24 [(0, .ref (h 0)), (2, .long x2), (4, .int v3), (5, .int v4)] [] := by
      intro k
      induction k with
      | zero => intro v3 v4 hmu; exact absurd hmu (Nat.not_lt_zero _)
      | succ k ih =>
        intro v3 v4 hmu
        rw [xX4_hour_l24]
        refine g_iload C (pc := 24) dX4_hour_24 3 rfl ?_
        refine g_aload_n C (pc := 26) dX4_hour_26 0 rfl ?_
        refine g_get C (pc := 27) inX4_hour_4 rfl 0 (by decide) (List.mem_of_getElem? (i := 2) rfl) dX4_hour_27 0 rfl (.ref (h 1)) rfl ?_
        refine g_get C (pc := 30) inX4_hour_0 rfl 2 (by decide) (List.mem_of_getElem? (i := 3) rfl) dX4_hour_30 1 rfl (.ref (h 11)) rfl ?_
        refine g_Vpi C (pc := 33) (As := []) (kX1_size l D cA T 60 (sh 11 h) (sh 11 M) hz.2.2.2.2.1) (v_main_cells_11 cA h M) gX4_hour_X1_size rfl ⟨rfl, rfl⟩ ⟨Nat.le_of_ble_eq_true rfl, Nat.le_of_ble_eq_true rfl⟩ ⟨Nat.zero_le _, Nat.zero_le _⟩ rfl (Nat.le_of_ble_eq_true rfl) hdV_X1_size 0 rfl rfl rfl dX4_hour_33 ?_
        refine g_icmp_ge C (pc := 36) 82 dX4_hour_36 (by decide) (fun c5 => ?_) (fun c5 => ?_)
        · refine g_iload C (pc := 82) dX4_hour_82 2 rfl ?_
          exact r_ei C rfl dX4_hour_84 hz
        · refine g_aload_n C (pc := 39) dX4_hour_39 0 rfl ?_
          refine g_get C (pc := 40) inX4_hour_4 rfl 0 (by decide) (List.mem_of_getElem? (i := 2) rfl) dX4_hour_40 0 rfl (.ref (h 1)) rfl ?_
          refine g_get C (pc := 43) inX4_hour_0 rfl 2 (by decide) (List.mem_of_getElem? (i := 3) rfl) dX4_hour_43 1 rfl (.ref (h 11)) rfl ?_
          refine g_iload C (pc := 46) dX4_hour_46 3 rfl ?_
          refine g_Vpi C (pc := 48) (As := [.int v4]) (kX1_at l D cA T 60 (sh 11 h) (sh 11 M) v4 hz.2.2.2.2.1) (v_main_cells_11 cA h M) gX4_hour_X1_at rfl ⟨rfl, rfl⟩ ⟨Nat.le_of_ble_eq_true rfl, Nat.le_of_ble_eq_true rfl⟩ ⟨Nat.zero_le _, Nat.zero_le _⟩ rfl (Nat.le_of_ble_eq_true rfl) hdV_X1_at 0 rfl rfl rfl dX4_hour_48 ?_
          refine g_nmi (fun x6 ex6 => ?_)
          refine g_istore C (pc := 51) [(6, .int x6), (0, .ref (h 0)), (2, .long x2), (4, .int v3), (5, .int v4)] dX4_hour_51 (by decide) rfl ?_
          refine g_iload C (pc := 53) dX4_hour_53 0 rfl ?_
          refine g_i2l C (pc := 55) dX4_hour_55 rfl ?_
          refine g_lload_n C (pc := 56) dX4_hour_56 2 rfl ?_
          refine g_lcmp C (pc := 57) dX4_hour_57 ?_
          refine g_if_lt C (pc := 58) 76 dX4_hour_58 (by decide) (fun c7 => ?_) (fun c7 => ?_)
          · refine g_iincN C (pc := 76) 1 (fun y => [(5, .int y), (6, .int x6), (0, .ref (h 0)), (2, .long x2), (4, .int v3)]) dX4_hour_76 4 rfl cI_1 (by decide) (fun _ => rfl) (fun x8 ex8 => ?_)
            refine g_goto C (pc := 79) 24 dX4_hour_79 (by decide) ?_
            refine g_sub [2, 3, 4, 0] rfl ?_
            exact ih v3 x8 (by rw [ex8]; exact lp_dec c5 hmu)
          · refine g_iload C (pc := 61) dX4_hour_61 0 rfl ?_
            refine g_i2l C (pc := 63) dX4_hour_63 rfl ?_
            refine g_lload_n C (pc := 64) dX4_hour_64 2 rfl ?_
            refine g_ldc2 C (pc := 65) (v := 100) dX4_hour_65 (List.mem_of_getElem? (i := 1) rfl) ?_
            refine g_ladd C (pc := 68) dX4_hour_68 ?_
            refine g_lcmp C (pc := 69) dX4_hour_69 ?_
            refine g_if_ge C (pc := 70) 76 dX4_hour_70 (by decide) (fun c9 => ?_) (fun c9 => ?_)
            · refine g_iincN C (pc := 76) 1 (fun y => [(5, .int y), (6, .int x6), (0, .ref (h 0)), (2, .long x2), (4, .int v3)]) dX4_hour_76 4 rfl cI_1 (by decide) (fun _ => rfl) (fun x10 ex10 => ?_)
              refine g_goto C (pc := 79) 24 dX4_hour_79 (by decide) ?_
              refine g_sub [2, 3, 4, 0] rfl ?_
              exact ih v3 x10 (by rw [ex10]; exact lp_dec c5 hmu)
            · refine g_iincN C (pc := 73) 1 (fun y => [(4, .int y), (6, .int x6), (0, .ref (h 0)), (2, .long x2), (5, .int v4)]) dX4_hour_73 3 rfl cI_1 (by decide) (fun _ => rfl) (fun x11 ex11 => ?_)
              refine g_iincN C (pc := 76) 1 (fun y => [(5, .int y), (4, .int x11), (6, .int x6), (0, .ref (h 0)), (2, .long x2)]) dX4_hour_76 4 rfl cI_1 (by decide) (fun _ => rfl) (fun x12 ex12 => ?_)
              refine g_goto C (pc := 79) 24 dX4_hour_79 (by decide) ?_
              refine g_sub [3, 4, 1, 0] rfl ?_
              exact ih x11 x12 (by rw [ex12]; exact lp_dec c5 hmu)
    refine g_sub [3, 2, 1, 0] rfl ?_
    exact L24 _ 0 0 (Nat.lt_succ_self _)
  · refine g_aload_n C (pc := 4) dX4_hour_4 0 rfl ?_
    refine g_bipush C (pc := 5) dX4_hour_5 cB_m4 ?_
    refine g_Vei C (pc := 7) (As := [.int (-4)]) (kX4_refuse l D cA T h M (-4) hz) (v_id (mainW cA h) M 56 (fun _ => rfl) rfl) gX4_hour_X4_refuse rfl ⟨rfl, rfl⟩ ⟨Nat.le_of_ble_eq_true rfl, Nat.le_of_ble_eq_true rfl⟩ ⟨Nat.zero_le _, Nat.zero_le _⟩ rfl (Nat.le_of_ble_eq_true rfl) hdV_X4_refuse 0 rfl rfl rfl dX4_hour_7 (fun z13 ez13 hz_z13 => ?_)
    refine g_nmW (mainW cA h) (fun M14 eM14 => ?_)
    have hz14 : (Zmain M14) := by rw [eM14]; exact hz_z13
    exact r_ei C rfl dX4_hour_10 hz14
theorem inX4_gap_4 : ∀ w ∈ u_ws RX4 TX4 8, w ∈ wsX4_gap := by decide +kernel
noncomputable def xX4_gap (M : St) (p0 : Int32) : Int32 × St := nm (if 0 ≤ p0 then (0) else (1) : Int32) fun v2 => nm (if 9999 < p0 then (1) else (if (xX1_size 10 (sh 52 M)) < 10 then (0) else (1)) : Int32) fun v5 => nm (xX4_outside M v2 v5) fun z6 => nm (z6.2) fun M7 => nm (z6.1 : Int32) fun x8 => if x8 = 0 then (nm (xX1_add 10 (sh 52 M7) p0) fun z10 => nm (put 52 2 z10 M7) fun M11 => ((xX1_size 10 (sh 52 M11)), M11)) else ((x8, M7))
set_option maxHeartbeats 4000000 in
set_option maxRecDepth 100000 in
theorem kX4_gap (l : Launch) (D : va_G) (cA : ClassId) (T : Nat × Nat × Nat) (h : Nat → Nat) (M : St) (p0 : Int32) (hz : (Zmain M)) : ∀ sz : Nat, Met l yX4_gap wsX4_gap { frames := 3, cells := 0, slots := 0, locals := 65 } (va_Pc [.ref (h 0), .int p0] (PreW D cA T (mainW cA h M) sz)) (va_Qi (fun r u => (r, u) = (xX4_gap M p0) ∧ (Zmain) u) (fun u => PostW D cA (va_A (mainW cA h M) sz) (mainW cA h u)) (va_A (mainW cA h M) sz)) 0 0 (va_A (mainW cA h M) sz) := by
  refine m_ei (Wf := mainW cA h) (inv := (Zmain)) (cc := cX4_gap) (maxL := 3) (own := RX4) (by decide) rfl rfl (Nat.le_of_ble_eq_true rfl) (fun {p e s m args below meth c} A C X => ?_)
  show G p l e { frames := 3, cells := 0, slots := 0, locals := 65 } s m args below meth c 0 0 D A (Qei below D cA A args s 0 0 (mainW cA h) (Zmain) X) 3 X (xX4_gap M p0) (mainW cA h M) 0 [(0, .ref (h 0)), (1, .int p0)] []
  unfold xX4_gap
  refine g_aload_n C (pc := 0) dX4_gap_0 0 rfl ?_
  refine g_iload_n C (pc := 1) dX4_gap_1 1 rfl ?_
  refine g_join (α := Int32) (fun v2 => [(0, .ref (h 0)), (1, .int p0)]) (fun v2 => [.int v2, .ref (h 0)]) 10 (fun v2 ev2 => ?_) (fun Jv2 => ?_)
  · refine g_iload_n C (pc := 10) dX4_gap_10 1 rfl ?_
    refine g_sipush C (pc := 11) dX4_gap_11 cS_9999 ?_
    refine g_join (α := Int32) (fun v5 => [(0, .ref (h 0)), (1, .int p0)]) (fun v5 => [.int v5, .int v2, .ref (h 0)]) 34 (fun v5 ev5 => ?_) (fun Jv5 => ?_)
    · refine g_Vei C (pc := 34) (As := [.int v2, .int v5]) (kX4_outside l D cA T h M v2 v5 hz) (v_id (mainW cA h) M 56 (fun _ => rfl) rfl) gX4_gap_X4_outside rfl ⟨rfl, rfl⟩ ⟨Nat.le_of_ble_eq_true rfl, Nat.le_of_ble_eq_true rfl⟩ ⟨Nat.zero_le _, Nat.zero_le _⟩ rfl (Nat.le_of_ble_eq_true rfl) hdV_X4_outside 0 rfl rfl rfl dX4_gap_34 (fun z6 ez6 hz_z6 => ?_)
      refine g_nmW (mainW cA h) (fun M7 eM7 => ?_)
      have hz7 : (Zmain M7) := by rw [eM7]; exact hz_z6
      refine g_nmi (fun x8 ex8 => ?_)
      refine g_istore_n C (pc := 37) [(2, .int x8), (0, .ref (h 0)), (1, .int p0)] dX4_gap_37 (by decide) rfl ?_
      refine g_iload_n C (pc := 38) dX4_gap_38 0 rfl ?_
      refine g_if_eq C (pc := 39) 44 dX4_gap_39 (by decide) (fun c9 => ?_) (fun c9 => ?_)
      · refine g_aload_n C (pc := 44) dX4_gap_44 1 rfl ?_
        refine g_get C (pc := 45) inX4_gap_4 rfl 5 (by decide) (List.mem_of_getElem? (i := 1) rfl) dX4_gap_45 0 rfl (.ref (h 52)) rfl ?_
        refine g_iload_n C (pc := 48) dX4_gap_48 2 rfl ?_
        refine g_Vev C (pc := 49) (As := [.int p0]) (kX1_add l D cA T 10 (sh 52 h) (sh 52 M7) p0 hz7.2.2.2.2.2.2.2.2.2.2.2.2.2.2.2.2.2.2.2.2.2.1) (v_main_cells_52 cA h M7) gX4_gap_X1_add rfl ⟨rfl, rfl⟩ ⟨Nat.le_of_ble_eq_true rfl, Nat.le_of_ble_eq_true rfl⟩ ⟨Nat.zero_le _, Nat.zero_le _⟩ rfl (Nat.le_of_ble_eq_true rfl) hdV_X1_add 0 rfl rfl rfl dX4_gap_49 (fun z10 ez10 hz_z10 => ?_)
        refine g_nmW (mainW cA h) (fun M11 eM11 => ?_)
        have hz11 : (Zmain M11) := by rw [eM11]; exact ⟨hz7.1, hz7.2.1, hz7.2.2.1, hz7.2.2.2.1, hz7.2.2.2.2.1, hz7.2.2.2.2.2.1, hz7.2.2.2.2.2.2.1, hz7.2.2.2.2.2.2.2.1, hz7.2.2.2.2.2.2.2.2.1, hz7.2.2.2.2.2.2.2.2.2.1, hz7.2.2.2.2.2.2.2.2.2.2.1, hz7.2.2.2.2.2.2.2.2.2.2.2.1, hz7.2.2.2.2.2.2.2.2.2.2.2.2.1, hz7.2.2.2.2.2.2.2.2.2.2.2.2.2.1, hz7.2.2.2.2.2.2.2.2.2.2.2.2.2.2.1, hz7.2.2.2.2.2.2.2.2.2.2.2.2.2.2.2.1, hz7.2.2.2.2.2.2.2.2.2.2.2.2.2.2.2.2.1, hz7.2.2.2.2.2.2.2.2.2.2.2.2.2.2.2.2.2.1, hz7.2.2.2.2.2.2.2.2.2.2.2.2.2.2.2.2.2.2.1, hz7.2.2.2.2.2.2.2.2.2.2.2.2.2.2.2.2.2.2.2.1, hz7.2.2.2.2.2.2.2.2.2.2.2.2.2.2.2.2.2.2.2.2.1, hz_z10, hz7.2.2.2.2.2.2.2.2.2.2.2.2.2.2.2.2.2.2.2.2.2.2⟩
        refine g_aload_n C (pc := 52) dX4_gap_52 1 rfl ?_
        refine g_get C (pc := 53) inX4_gap_4 rfl 5 (by decide) (List.mem_of_getElem? (i := 1) rfl) dX4_gap_53 0 rfl (.ref (h 52)) rfl ?_
        refine g_Vpi C (pc := 56) (As := []) (kX1_size l D cA T 10 (sh 52 h) (sh 52 M11) hz11.2.2.2.2.2.2.2.2.2.2.2.2.2.2.2.2.2.2.2.2.2.1) (v_main_cells_52 cA h M11) gX4_gap_X1_size rfl ⟨rfl, rfl⟩ ⟨Nat.le_of_ble_eq_true rfl, Nat.le_of_ble_eq_true rfl⟩ ⟨Nat.zero_le _, Nat.zero_le _⟩ rfl (Nat.le_of_ble_eq_true rfl) hdV_X1_size 0 rfl rfl rfl dX4_gap_56 ?_
        exact r_ei C rfl dX4_gap_59 hz11
      · refine g_iload_n C (pc := 42) dX4_gap_42 0 rfl ?_
        exact r_ei C rfl dX4_gap_43 hz7
    · refine g_icmp_gt0 C (pc := 14) 29 dX4_gap_14 (by decide) (fun c3 => ?_) (fun c3 => ?_)
      · refine g_iconst C (pc := 29) dX4_gap_29 cI_1 ?_
        refine g_goto C (pc := 30) 34 dX4_gap_30 (by decide) ?_
        refine g_sub [0, 1] rfl ?_
        exact g_lf (if_pos c3) (Jv5 _ (Eq.symm (if_pos c3)))
      · refine g_aload_n C (pc := 17) dX4_gap_17 0 rfl ?_
        refine g_get C (pc := 18) inX4_gap_4 rfl 5 (by decide) (List.mem_of_getElem? (i := 1) rfl) dX4_gap_18 0 rfl (.ref (h 52)) rfl ?_
        refine g_Vpi C (pc := 21) (As := []) (kX1_size l D cA T 10 (sh 52 h) (sh 52 M) hz.2.2.2.2.2.2.2.2.2.2.2.2.2.2.2.2.2.2.2.2.2.1) (v_main_cells_52 cA h M) gX4_gap_X1_size rfl ⟨rfl, rfl⟩ ⟨Nat.le_of_ble_eq_true rfl, Nat.le_of_ble_eq_true rfl⟩ ⟨Nat.zero_le _, Nat.zero_le _⟩ rfl (Nat.le_of_ble_eq_true rfl) hdV_X1_size 0 rfl rfl rfl dX4_gap_21 ?_
        refine g_bipush C (pc := 24) dX4_gap_24 cB_10 ?_
        refine g_icmp_lt0 C (pc := 26) 33 dX4_gap_26 (by decide) (fun c4 => ?_) (fun c4 => ?_)
        · refine g_iconst C (pc := 33) dX4_gap_33 cI_0 ?_
          refine g_sub [0, 1] rfl ?_
          exact g_lf ((if_neg c3).trans (if_pos c4)) (Jv5 _ (Eq.symm ((if_neg c3).trans (if_pos c4))))
        · refine g_iconst C (pc := 29) dX4_gap_29 cI_1 ?_
          refine g_goto C (pc := 30) 34 dX4_gap_30 (by decide) ?_
          refine g_sub [0, 1] rfl ?_
          exact g_lf ((if_neg c3).trans (if_neg c4)) (Jv5 _ (Eq.symm ((if_neg c3).trans (if_neg c4))))
  · refine g_if_ge0 C (pc := 2) 9 dX4_gap_2 (by decide) (fun c1 => ?_) (fun c1 => ?_)
    · refine g_iconst C (pc := 9) dX4_gap_9 cI_0 ?_
      refine g_sub [0, 1] rfl ?_
      exact g_lf (if_pos c1) (Jv2 _ (Eq.symm (if_pos c1)))
    · refine g_iconst C (pc := 5) dX4_gap_5 cI_1 ?_
      refine g_goto C (pc := 6) 10 dX4_gap_6 (by decide) ?_
      refine g_sub [0, 1] rfl ?_
      exact g_lf (if_neg c1) (Jv2 _ (Eq.symm (if_neg c1)))
theorem inX4_judged_4 : ∀ w ∈ u_ws RX4 TX4 8, w ∈ wsX4_judged := by decide +kernel
noncomputable def xX4_judged_l23 : Nat → St → Int32 → Int32 → Int32 → Int32 → Int32
  | 0, M, _, _, _, _ => (0)
  | k + 1, M, p0, x1, x2, v3 => if x2 ≤ v3 then (if (xX1_size 10 (sh 52 M)) = x1 then ((-9)) else (x2)) else (if (if 0 ≤ ((xX1_at 10 (sh 52 M) v3) - (xX0_gapAt (sh 1 M) v3)) then ((xX1_at 10 (sh 52 M) v3) - (xX0_gapAt (sh 1 M) v3)) else 0 - ((xX1_at 10 (sh 52 M) v3) - (xX0_gapAt (sh 1 M) v3))) ≤ p0 then (nm (v3 + 1 : Int32) fun x7 => xX4_judged_l23 k M p0 x1 x2 x7) else (v3))
noncomputable def xX4_judged (M : St) (p0 : Int32) : Int32 := nm ((xX0_gaps (sh 1 M)) : Int32) fun x1 => nm ((if x1 < (xX1_size 10 (sh 52 M)) then x1 else (xX1_size 10 (sh 52 M))) : Int32) fun x2 => xX4_judged_l23 (mu 0 x2 + 1) M p0 x1 x2 0
set_option maxHeartbeats 4000000 in
set_option maxRecDepth 100000 in
theorem kX4_judged (l : Launch) (D : va_G) (cA : ClassId) (T : Nat × Nat × Nat) (h : Nat → Nat) (M : St) (p0 : Int32) (hz : (Zmain M)) : ∀ sz : Nat, Met l yX4_judged wsX4_judged { frames := 3, cells := 0, slots := 0, locals := 62 } (va_Pc [.ref (h 0), .int p0] (PreW D cA T (mainW cA h M) sz)) (va_Qi (fun r (_ : Unit) => r = (xX4_judged M p0)) (fun _ => PostW D cA (va_A (mainW cA h M) sz) (mainW cA h M)) (va_A (mainW cA h M) sz)) 0 0 (va_A (mainW cA h M) sz) := by
  refine m_pi (cc := cX4_judged) (maxL := 5) (own := RX4) (by decide) rfl rfl (Nat.le_of_ble_eq_true rfl) (fun {p e s m args below meth c} A C X => ?_)
  show G p l e { frames := 3, cells := 0, slots := 0, locals := 62 } s m args below meth c 0 0 D A (Qpi below D cA A args s (mainW cA h M) X) 5 X (xX4_judged M p0) (mainW cA h M) 0 [(0, .ref (h 0)), (1, .int p0)] []
  unfold xX4_judged
  refine g_aload_n C (pc := 0) dX4_judged_0 0 rfl ?_
  refine g_get C (pc := 1) inX4_judged_4 rfl 0 (by decide) (List.mem_of_getElem? (i := 1) rfl) dX4_judged_1 0 rfl (.ref (h 1)) rfl ?_
  refine g_Vpi C (pc := 4) (As := []) (kX0_gaps l D cA T (sh 1 h) (sh 1 M) ⟨hz.1, hz.2.1, hz.2.2.1, hz.2.2.2.1, hz.2.2.2.2.1⟩) (v_main_bird_1 cA h M) gX4_judged_X0_gaps rfl ⟨rfl, rfl⟩ ⟨Nat.le_of_ble_eq_true rfl, Nat.le_of_ble_eq_true rfl⟩ ⟨Nat.zero_le _, Nat.zero_le _⟩ rfl (Nat.le_of_ble_eq_true rfl) hdV_X0_gaps 0 rfl rfl rfl dX4_judged_4 ?_
  refine g_nmi (fun x1 ex1 => ?_)
  refine g_istore_n C (pc := 7) [(2, .int x1), (0, .ref (h 0)), (1, .int p0)] dX4_judged_7 (by decide) rfl ?_
  refine g_aload_n C (pc := 8) dX4_judged_8 1 rfl ?_
  refine g_get C (pc := 9) inX4_judged_4 rfl 5 (by decide) (List.mem_of_getElem? (i := 2) rfl) dX4_judged_9 0 rfl (.ref (h 52)) rfl ?_
  refine g_Vpi C (pc := 12) (As := []) (kX1_size l D cA T 10 (sh 52 h) (sh 52 M) hz.2.2.2.2.2.2.2.2.2.2.2.2.2.2.2.2.2.2.2.2.2.1) (v_main_cells_52 cA h M) gX4_judged_X1_size rfl ⟨rfl, rfl⟩ ⟨Nat.le_of_ble_eq_true rfl, Nat.le_of_ble_eq_true rfl⟩ ⟨Nat.zero_le _, Nat.zero_le _⟩ rfl (Nat.le_of_ble_eq_true rfl) hdV_X1_size 0 rfl rfl rfl dX4_judged_12 ?_
  refine g_iload_n C (pc := 15) dX4_judged_15 0 rfl ?_
  refine g_min C (pc := 16) (List.mem_of_getElem? (i := 3) rfl) (List.mem_of_getElem? (i := 4) rfl) (List.mem_of_getElem? (i := 5) rfl) (List.mem_of_getElem? (i := 6) rfl) ⟨Nat.le_of_ble_eq_true rfl, Nat.le_of_ble_eq_true rfl, Nat.zero_le _, Nat.zero_le _⟩ dX4_judged_16 ?_
  refine g_nmi (fun x2 ex2 => ?_)
  refine g_istore_n C (pc := 19) [(3, .int x2), (2, .int x1), (0, .ref (h 0)), (1, .int p0)] dX4_judged_19 (by decide) rfl ?_
  refine g_iconst C (pc := 20) dX4_judged_20 cI_0 ?_
  refine g_istore C (pc := 21) [(4, .int 0), (3, .int x2), (2, .int x1), (0, .ref (h 0)), (1, .int p0)] dX4_judged_21 (by decide) rfl ?_
  have L23 : ∀ (k : Nat) (v3 : Int32), mu v3 x2 < k → G p l e { frames := 3, cells := 0, slots := 0, locals := 62 } s m args below meth c 0 0 D A (Qpi below D cA A args s (mainW cA h M) X) 5 X (xX4_judged_l23 k M p0 x1 x2 v3) (mainW cA h M) 23 [(0, .ref (h 0)), (1, .int p0), (2, .int x1), (3, .int x2), (4, .int v3)] [] := by
    intro k
    induction k with
    | zero => intro v3 hmu; exact absurd hmu (Nat.not_lt_zero _)
    | succ k ih =>
      intro v3 hmu
      rw [xX4_judged_l23]
      refine g_iload C (pc := 23) dX4_judged_23 4 rfl ?_
      refine g_iload_n C (pc := 25) dX4_judged_25 3 rfl ?_
      refine g_icmp_ge C (pc := 26) 64 dX4_judged_26 (by decide) (fun c4 => ?_) (fun c4 => ?_)
      · refine g_aload_n C (pc := 64) dX4_judged_64 0 rfl ?_
        refine g_get C (pc := 65) inX4_judged_4 rfl 5 (by decide) (List.mem_of_getElem? (i := 2) rfl) dX4_judged_65 0 rfl (.ref (h 52)) rfl ?_
        refine g_Vpi C (pc := 68) (As := []) (kX1_size l D cA T 10 (sh 52 h) (sh 52 M) hz.2.2.2.2.2.2.2.2.2.2.2.2.2.2.2.2.2.2.2.2.2.1) (v_main_cells_52 cA h M) gX4_judged_X1_size rfl ⟨rfl, rfl⟩ ⟨Nat.le_of_ble_eq_true rfl, Nat.le_of_ble_eq_true rfl⟩ ⟨Nat.zero_le _, Nat.zero_le _⟩ rfl (Nat.le_of_ble_eq_true rfl) hdV_X1_size 0 rfl rfl rfl dX4_judged_68 ?_
        refine g_iload_n C (pc := 71) dX4_judged_71 2 rfl ?_
        refine g_icmp_ne C (pc := 72) 80 dX4_judged_72 (by decide) (fun c5 => ?_) (fun c5 => ?_)
        · refine g_iload_n C (pc := 80) dX4_judged_80 3 rfl ?_
          exact r_pi C rfl dX4_judged_81
        · refine g_bipush C (pc := 75) dX4_judged_75 cB_m9 ?_
          refine g_goto C (pc := 77) 81 dX4_judged_77 (by decide) ?_
          exact r_pi C rfl dX4_judged_81
      · refine g_aload_n C (pc := 29) dX4_judged_29 0 rfl ?_
        refine g_get C (pc := 30) inX4_judged_4 rfl 5 (by decide) (List.mem_of_getElem? (i := 2) rfl) dX4_judged_30 0 rfl (.ref (h 52)) rfl ?_
        refine g_iload C (pc := 33) dX4_judged_33 4 rfl ?_
        refine g_Vpi C (pc := 35) (As := [.int v3]) (kX1_at l D cA T 10 (sh 52 h) (sh 52 M) v3 hz.2.2.2.2.2.2.2.2.2.2.2.2.2.2.2.2.2.2.2.2.2.1) (v_main_cells_52 cA h M) gX4_judged_X1_at rfl ⟨rfl, rfl⟩ ⟨Nat.le_of_ble_eq_true rfl, Nat.le_of_ble_eq_true rfl⟩ ⟨Nat.zero_le _, Nat.zero_le _⟩ rfl (Nat.le_of_ble_eq_true rfl) hdV_X1_at 0 rfl rfl rfl dX4_judged_35 ?_
        refine g_aload_n C (pc := 38) dX4_judged_38 0 rfl ?_
        refine g_get C (pc := 39) inX4_judged_4 rfl 0 (by decide) (List.mem_of_getElem? (i := 1) rfl) dX4_judged_39 0 rfl (.ref (h 1)) rfl ?_
        refine g_iload C (pc := 42) dX4_judged_42 4 rfl ?_
        refine g_Vpi C (pc := 44) (As := [.int v3]) (kX0_gapAt l D cA T (sh 1 h) (sh 1 M) v3 ⟨hz.1, hz.2.1, hz.2.2.1, hz.2.2.2.1, hz.2.2.2.2.1⟩) (v_main_bird_1 cA h M) gX4_judged_X0_gapAt rfl ⟨rfl, rfl⟩ ⟨Nat.le_of_ble_eq_true rfl, Nat.le_of_ble_eq_true rfl⟩ ⟨Nat.zero_le _, Nat.zero_le _⟩ rfl (Nat.le_of_ble_eq_true rfl) hdV_X0_gapAt 0 rfl rfl rfl dX4_judged_44 ?_
        refine g_isub C (pc := 47) dX4_judged_47 ?_
        refine g_abs C (pc := 48) (List.mem_of_getElem? (i := 7) rfl) (List.mem_of_getElem? (i := 8) rfl) (List.mem_of_getElem? (i := 5) rfl) (List.mem_of_getElem? (i := 9) rfl) ⟨Nat.le_of_ble_eq_true rfl, Nat.le_of_ble_eq_true rfl, Nat.zero_le _, Nat.zero_le _⟩ dX4_judged_48 ?_
        refine g_iload_n C (pc := 51) dX4_judged_51 1 rfl ?_
        refine g_icmp_le C (pc := 52) 58 dX4_judged_52 (by decide) (fun c6 => ?_) (fun c6 => ?_)
        · refine g_iincN C (pc := 58) 1 (fun y => [(4, .int y), (0, .ref (h 0)), (1, .int p0), (2, .int x1), (3, .int x2)]) dX4_judged_58 4 rfl cI_1 (by decide) (fun _ => rfl) (fun x7 ex7 => ?_)
          refine g_goto C (pc := 61) 23 dX4_judged_61 (by decide) ?_
          refine g_sub [1, 2, 3, 4, 0] rfl ?_
          exact ih x7 (by rw [ex7]; exact lp_dec c4 hmu)
        · refine g_iload C (pc := 55) dX4_judged_55 4 rfl ?_
          exact r_pi C rfl dX4_judged_57
  refine g_sub [3, 4, 2, 1, 0] rfl ?_
  exact L23 _ 0 (Nat.lt_succ_self _)
theorem inX4_judge_4 : ∀ w ∈ u_ws RX4 TX4 8, w ∈ wsX4_judge := by decide +kernel
noncomputable def xX4_judge (M : St) (p0 : Int32) : Int32 × St := nm (if 0 ≤ p0 then (0) else (1) : Int32) fun v2 => nm (if p0 ≤ 9999 then (0) else (1) : Int32) fun v4 => nm (xX4_outside M v2 v4) fun z5 => nm (z5.2) fun M6 => nm (z5.1 : Int32) fun x7 => if x7 = 0 then (nm ((xX4_judged M6 p0) : Int32) fun x9 => nm (xX1_clear 10 (sh 52 M6)) fun z10 => nm (put 52 2 z10 M6) fun M11 => (x9, M11)) else ((x7, M6))
set_option maxHeartbeats 4000000 in
set_option maxRecDepth 100000 in
theorem kX4_judge (l : Launch) (D : va_G) (cA : ClassId) (T : Nat × Nat × Nat) (h : Nat → Nat) (M : St) (p0 : Int32) (hz : (Zmain M)) : ∀ sz : Nat, Met l yX4_judge wsX4_judge { frames := 4, cells := 0, slots := 0, locals := 86 } (va_Pc [.ref (h 0), .int p0] (PreW D cA T (mainW cA h M) sz)) (va_Qi (fun r u => (r, u) = (xX4_judge M p0) ∧ (Zmain) u) (fun u => PostW D cA (va_A (mainW cA h M) sz) (mainW cA h u)) (va_A (mainW cA h M) sz)) 0 0 (va_A (mainW cA h M) sz) := by
  refine m_ei (Wf := mainW cA h) (inv := (Zmain)) (cc := cX4_judge) (maxL := 4) (own := RX4) (by decide) rfl rfl (Nat.le_of_ble_eq_true rfl) (fun {p e s m args below meth c} A C X => ?_)
  show G p l e { frames := 4, cells := 0, slots := 0, locals := 86 } s m args below meth c 0 0 D A (Qei below D cA A args s 0 0 (mainW cA h) (Zmain) X) 4 X (xX4_judge M p0) (mainW cA h M) 0 [(0, .ref (h 0)), (1, .int p0)] []
  unfold xX4_judge
  refine g_aload_n C (pc := 0) dX4_judge_0 0 rfl ?_
  refine g_iload_n C (pc := 1) dX4_judge_1 1 rfl ?_
  refine g_join (α := Int32) (fun v2 => [(0, .ref (h 0)), (1, .int p0)]) (fun v2 => [.int v2, .ref (h 0)]) 10 (fun v2 ev2 => ?_) (fun Jv2 => ?_)
  · refine g_iload_n C (pc := 10) dX4_judge_10 1 rfl ?_
    refine g_sipush C (pc := 11) dX4_judge_11 cS_9999 ?_
    refine g_join (α := Int32) (fun v4 => [(0, .ref (h 0)), (1, .int p0)]) (fun v4 => [.int v4, .int v2, .ref (h 0)]) 22 (fun v4 ev4 => ?_) (fun Jv4 => ?_)
    · refine g_Vei C (pc := 22) (As := [.int v2, .int v4]) (kX4_outside l D cA T h M v2 v4 hz) (v_id (mainW cA h) M 56 (fun _ => rfl) rfl) gX4_judge_X4_outside rfl ⟨rfl, rfl⟩ ⟨Nat.le_of_ble_eq_true rfl, Nat.le_of_ble_eq_true rfl⟩ ⟨Nat.zero_le _, Nat.zero_le _⟩ rfl (Nat.le_of_ble_eq_true rfl) hdV_X4_outside 0 rfl rfl rfl dX4_judge_22 (fun z5 ez5 hz_z5 => ?_)
      refine g_nmW (mainW cA h) (fun M6 eM6 => ?_)
      have hz6 : (Zmain M6) := by rw [eM6]; exact hz_z5
      refine g_nmi (fun x7 ex7 => ?_)
      refine g_istore_n C (pc := 25) [(2, .int x7), (0, .ref (h 0)), (1, .int p0)] dX4_judge_25 (by decide) rfl ?_
      refine g_iload_n C (pc := 26) dX4_judge_26 0 rfl ?_
      refine g_if_eq C (pc := 27) 32 dX4_judge_27 (by decide) (fun c8 => ?_) (fun c8 => ?_)
      · refine g_aload_n C (pc := 32) dX4_judge_32 1 rfl ?_
        refine g_iload_n C (pc := 33) dX4_judge_33 2 rfl ?_
        refine g_Vpi C (pc := 34) (As := [.int p0]) (kX4_judged l D cA T h M6 p0 hz6) (v_id (mainW cA h) M6 56 (fun _ => rfl) rfl) gX4_judge_X4_judged rfl ⟨rfl, rfl⟩ ⟨Nat.le_of_ble_eq_true rfl, Nat.le_of_ble_eq_true rfl⟩ ⟨Nat.zero_le _, Nat.zero_le _⟩ rfl (Nat.le_of_ble_eq_true rfl) hdV_X4_judged 0 rfl rfl rfl dX4_judge_34 ?_
        refine g_nmi (fun x9 ex9 => ?_)
        refine g_istore_n C (pc := 37) [(3, .int x9), (2, .int x7), (0, .ref (h 0)), (1, .int p0)] dX4_judge_37 (by decide) rfl ?_
        refine g_aload_n C (pc := 38) dX4_judge_38 2 rfl ?_
        refine g_get C (pc := 39) inX4_judge_4 rfl 5 (by decide) (List.mem_of_getElem? (i := 1) rfl) dX4_judge_39 0 rfl (.ref (h 52)) rfl ?_
        refine g_Vev C (pc := 42) (As := []) (kX1_clear l D cA T 10 (sh 52 h) (sh 52 M6) hz6.2.2.2.2.2.2.2.2.2.2.2.2.2.2.2.2.2.2.2.2.2.1) (v_main_cells_52 cA h M6) gX4_judge_X1_clear rfl ⟨rfl, rfl⟩ ⟨Nat.le_of_ble_eq_true rfl, Nat.le_of_ble_eq_true rfl⟩ ⟨Nat.zero_le _, Nat.zero_le _⟩ rfl (Nat.le_of_ble_eq_true rfl) hdV_X1_clear 0 rfl rfl rfl dX4_judge_42 (fun z10 ez10 hz_z10 => ?_)
        refine g_nmW (mainW cA h) (fun M11 eM11 => ?_)
        have hz11 : (Zmain M11) := by rw [eM11]; exact ⟨hz6.1, hz6.2.1, hz6.2.2.1, hz6.2.2.2.1, hz6.2.2.2.2.1, hz6.2.2.2.2.2.1, hz6.2.2.2.2.2.2.1, hz6.2.2.2.2.2.2.2.1, hz6.2.2.2.2.2.2.2.2.1, hz6.2.2.2.2.2.2.2.2.2.1, hz6.2.2.2.2.2.2.2.2.2.2.1, hz6.2.2.2.2.2.2.2.2.2.2.2.1, hz6.2.2.2.2.2.2.2.2.2.2.2.2.1, hz6.2.2.2.2.2.2.2.2.2.2.2.2.2.1, hz6.2.2.2.2.2.2.2.2.2.2.2.2.2.2.1, hz6.2.2.2.2.2.2.2.2.2.2.2.2.2.2.2.1, hz6.2.2.2.2.2.2.2.2.2.2.2.2.2.2.2.2.1, hz6.2.2.2.2.2.2.2.2.2.2.2.2.2.2.2.2.2.1, hz6.2.2.2.2.2.2.2.2.2.2.2.2.2.2.2.2.2.2.1, hz6.2.2.2.2.2.2.2.2.2.2.2.2.2.2.2.2.2.2.2.1, hz6.2.2.2.2.2.2.2.2.2.2.2.2.2.2.2.2.2.2.2.2.1, hz_z10, hz6.2.2.2.2.2.2.2.2.2.2.2.2.2.2.2.2.2.2.2.2.2.2⟩
        refine g_iload_n C (pc := 45) dX4_judge_45 0 rfl ?_
        exact r_ei C rfl dX4_judge_46 hz11
      · refine g_iload_n C (pc := 30) dX4_judge_30 0 rfl ?_
        exact r_ei C rfl dX4_judge_31 hz6
    · refine g_icmp_le0 C (pc := 14) 21 dX4_judge_14 (by decide) (fun c3 => ?_) (fun c3 => ?_)
      · refine g_iconst C (pc := 21) dX4_judge_21 cI_0 ?_
        refine g_sub [0, 1] rfl ?_
        exact g_lf (if_pos c3) (Jv4 _ (Eq.symm (if_pos c3)))
      · refine g_iconst C (pc := 17) dX4_judge_17 cI_1 ?_
        refine g_goto C (pc := 18) 22 dX4_judge_18 (by decide) ?_
        refine g_sub [0, 1] rfl ?_
        exact g_lf (if_neg c3) (Jv4 _ (Eq.symm (if_neg c3)))
  · refine g_if_ge0 C (pc := 2) 9 dX4_judge_2 (by decide) (fun c1 => ?_) (fun c1 => ?_)
    · refine g_iconst C (pc := 9) dX4_judge_9 cI_0 ?_
      refine g_sub [0, 1] rfl ?_
      exact g_lf (if_pos c1) (Jv2 _ (Eq.symm (if_pos c1)))
    · refine g_iconst C (pc := 5) dX4_judge_5 cI_1 ?_
      refine g_goto C (pc := 6) 10 dX4_judge_6 (by decide) ?_
      refine g_sub [0, 1] rfl ?_
      exact g_lf (if_neg c1) (Jv2 _ (Eq.symm (if_neg c1)))
theorem inX4_fitsTheRow_4 : ∀ w ∈ u_ws RX4 TX4 8, w ∈ wsX4_fitsTheRow := by decide +kernel
noncomputable def xX4_fitsTheRow_l62 : Nat → St → Int32 → Int32 → Int32 × St
  | 0, M4, _, _ => (0, M4)
  | k + 1, M4, p1, v6 => if (xX1_size 10 (sh 52 M4)) ≤ v6 then ((1, M4)) else (if (if 0 ≤ ((xX1_at 10 (sh 52 M4) v6) - (xX0_gapAt (sh 25 M4) v6)) then ((xX1_at 10 (sh 52 M4) v6) - (xX0_gapAt (sh 25 M4) v6)) else 0 - ((xX1_at 10 (sh 52 M4) v6) - (xX0_gapAt (sh 25 M4) v6))) ≤ p1 then (nm (v6 + 1 : Int32) fun x9 => xX4_fitsTheRow_l62 k M4 p1 x9) else ((0, M4)))
noncomputable def xX4_fitsTheRow_j43 (M4 : St) (p1 : Int32) : Int32 × St := if (xX1_size 10 (sh 52 M4)) ≤ (xX0_gaps (sh 25 M4)) then (xX4_fitsTheRow_l62 (mu 0 (xX1_size 10 (sh 52 M4)) + 1) M4 p1 0) else ((0, M4))
noncomputable def xX4_fitsTheRow_l11 : Nat → St → Int32 → Int32 → Int32 × St
  | 0, M3, _, _ => (0, M3)
  | k + 1, M3, p1, v2 => if 3000 ≤ v2 then (xX4_fitsTheRow_j43 M3 p1) else (if (xX1_size 10 (sh 52 M3)) ≤ (xX0_gaps (sh 25 M3)) then (xX4_fitsTheRow_j43 M3 p1) else (nm (xX0_tenth (sh 25 M3)) fun z12 => nm (put 25 12 z12 M3) fun M13 => nm (v2 + 1 : Int32) fun x14 => xX4_fitsTheRow_l11 k M13 p1 x14))
noncomputable def xX4_fitsTheRow (M : St) (p0 : Int32) (p1 : Int32) : Int32 × St := nm (xX4_freshWith M 8 p0) fun M1 => xX4_fitsTheRow_l11 (mu 0 3000 + 1) M1 p1 0
set_option maxHeartbeats 4000000 in
set_option maxRecDepth 100000 in
theorem kX4_fitsTheRow (l : Launch) (D : va_G) (cA : ClassId) (T : Nat × Nat × Nat) (h : Nat → Nat) (M : St) (p0 : Int32) (p1 : Int32) (hz : (Zmain M)) : ∀ sz : Nat, Met l yX4_fitsTheRow wsX4_fitsTheRow { frames := 4, cells := 0, slots := 0, locals := 131 } (va_Pc [.ref (h 0), .int p0, .int p1] (PreW D cA T (mainW cA h M) sz)) (va_Qi (fun r u => (r, u) = (xX4_fitsTheRow M p0 p1) ∧ (Zmain) u) (fun u => PostW D cA (va_A (mainW cA h M) sz) (mainW cA h u)) (va_A (mainW cA h M) sz)) 0 0 (va_A (mainW cA h M) sz) := by
  refine m_ei (Wf := mainW cA h) (inv := (Zmain)) (cc := cX4_fitsTheRow) (maxL := 5) (own := RX4) (by decide) rfl rfl (Nat.le_of_ble_eq_true rfl) (fun {p e s m args below meth c} A C X => ?_)
  show G p l e { frames := 4, cells := 0, slots := 0, locals := 131 } s m args below meth c 0 0 D A (Qei below D cA A args s 0 0 (mainW cA h) (Zmain) X) 5 X (xX4_fitsTheRow M p0 p1) (mainW cA h M) 0 [(0, .ref (h 0)), (1, .int p0), (2, .int p1)] []
  unfold xX4_fitsTheRow
  refine g_aload_n C (pc := 0) dX4_fitsTheRow_0 0 rfl ?_
  refine g_bipush C (pc := 1) dX4_fitsTheRow_1 cB_8 ?_
  refine g_iload_n C (pc := 3) dX4_fitsTheRow_3 1 rfl ?_
  refine g_Ver C (pc := 4) (As := [.int 8, .int p0]) (kX4_freshWith l D cA T h M 8 p0 hz) (v_id (mainW cA h) M 56 (fun _ => rfl) rfl) gX4_fitsTheRow_X4_freshWith rfl ⟨rfl, rfl⟩ ⟨Nat.le_of_ble_eq_true rfl, Nat.le_of_ble_eq_true rfl⟩ ⟨Nat.zero_le _, Nat.zero_le _⟩ rfl (Nat.le_of_ble_eq_true rfl) hdV_X4_freshWith 0 rfl rfl rfl dX4_fitsTheRow_4 (fun M1 eM1 hz_M1 => ?_)
  have hz1 := hz_M1
  refine g_astore_n C (pc := 7) [(3, .ref (h 25)), (0, .ref (h 0)), (1, .int p0), (2, .int p1)] dX4_fitsTheRow_7 (by decide) rfl ?_
  refine g_iconst C (pc := 8) dX4_fitsTheRow_8 cI_0 ?_
  refine g_istore C (pc := 9) [(4, .int 0), (3, .ref (h 25)), (0, .ref (h 0)), (1, .int p0), (2, .int p1)] dX4_fitsTheRow_9 (by decide) rfl ?_
  have L11 : ∀ (k : Nat) (M3 : St) (v2 : Int32), (Zmain M3) → mu v2 3000 < k → G p l e { frames := 4, cells := 0, slots := 0, locals := 131 } s m args below meth c 0 0 D A (Qei below D cA A args s 0 0 (mainW cA h) (Zmain) X) 5 X (xX4_fitsTheRow_l11 k M3 p1 v2) (mainW cA h M3) 11 [(0, .ref (h 0)), (2, .int p1), (3, .ref (h 25)), (4, .int v2)] [] := by
    intro k
    induction k with
    | zero => intro M3 v2 hz3 hmu; exact absurd hmu (Nat.not_lt_zero _)
    | succ k ih =>
      intro M3 v2 hz3 hmu
      rw [xX4_fitsTheRow_l11]
      refine g_iload C (pc := 11) dX4_fitsTheRow_11 3 rfl ?_
      refine g_sipush C (pc := 13) dX4_fitsTheRow_13 cS_3000 ?_
      have J43 : ∀ (M4 : St), (Zmain M4) → G p l e { frames := 4, cells := 0, slots := 0, locals := 131 } s m args below meth c 0 0 D A (Qei below D cA A args s 0 0 (mainW cA h) (Zmain) X) 5 X (xX4_fitsTheRow_j43 M4 p1) (mainW cA h M4) 43 [(0, .ref (h 0)), (2, .int p1), (3, .ref (h 25))] [] := by
        intro M4 hz4
        unfold xX4_fitsTheRow_j43
        refine g_aload_n C (pc := 43) dX4_fitsTheRow_43 2 rfl ?_
        refine g_Vpi C (pc := 44) (As := []) (kX0_gaps l D cA T (sh 25 h) (sh 25 M4) ⟨hz4.2.2.2.2.2.2.2.2.2.2.1, hz4.2.2.2.2.2.2.2.2.2.2.2.1, hz4.2.2.2.2.2.2.2.2.2.2.2.2.1, hz4.2.2.2.2.2.2.2.2.2.2.2.2.2.1, hz4.2.2.2.2.2.2.2.2.2.2.2.2.2.2.1⟩) (v_main_bird_25 cA h M4) gX4_fitsTheRow_X0_gaps rfl ⟨rfl, rfl⟩ ⟨Nat.le_of_ble_eq_true rfl, Nat.le_of_ble_eq_true rfl⟩ ⟨Nat.zero_le _, Nat.zero_le _⟩ rfl (Nat.le_of_ble_eq_true rfl) hdV_X0_gaps 0 rfl rfl rfl dX4_fitsTheRow_44 ?_
        refine g_aload_n C (pc := 47) dX4_fitsTheRow_47 0 rfl ?_
        refine g_get C (pc := 48) inX4_fitsTheRow_4 rfl 5 (by decide) (List.mem_of_getElem? (i := 1) rfl) dX4_fitsTheRow_48 0 rfl (.ref (h 52)) rfl ?_
        refine g_Vpi C (pc := 51) (As := []) (kX1_size l D cA T 10 (sh 52 h) (sh 52 M4) hz4.2.2.2.2.2.2.2.2.2.2.2.2.2.2.2.2.2.2.2.2.2.1) (v_main_cells_52 cA h M4) gX4_fitsTheRow_X1_size rfl ⟨rfl, rfl⟩ ⟨Nat.le_of_ble_eq_true rfl, Nat.le_of_ble_eq_true rfl⟩ ⟨Nat.zero_le _, Nat.zero_le _⟩ rfl (Nat.le_of_ble_eq_true rfl) hdV_X1_size 0 rfl rfl rfl dX4_fitsTheRow_51 ?_
        refine g_icmp_ge C (pc := 54) 59 dX4_fitsTheRow_54 (by decide) (fun c5 => ?_) (fun c5 => ?_)
        · refine g_iconst C (pc := 59) dX4_fitsTheRow_59 cI_0 ?_
          refine g_istore C (pc := 60) [(4, .int 0), (0, .ref (h 0)), (2, .int p1), (3, .ref (h 25))] dX4_fitsTheRow_60 (by decide) rfl ?_
          have L62 : ∀ (k : Nat) (v6 : Int32), mu v6 (xX1_size 10 (sh 52 M4)) < k → G p l e { frames := 4, cells := 0, slots := 0, locals := 131 } s m args below meth c 0 0 D A (Qei below D cA A args s 0 0 (mainW cA h) (Zmain) X) 5 X (xX4_fitsTheRow_l62 k M4 p1 v6) (mainW cA h M4) 62 [(0, .ref (h 0)), (2, .int p1), (3, .ref (h 25)), (4, .int v6)] [] := by
            intro k
            induction k with
            | zero => intro v6 hmu; exact absurd hmu (Nat.not_lt_zero _)
            | succ k ih =>
              intro v6 hmu
              rw [xX4_fitsTheRow_l62]
              refine g_iload C (pc := 62) dX4_fitsTheRow_62 3 rfl ?_
              refine g_aload_n C (pc := 64) dX4_fitsTheRow_64 0 rfl ?_
              refine g_get C (pc := 65) inX4_fitsTheRow_4 rfl 5 (by decide) (List.mem_of_getElem? (i := 1) rfl) dX4_fitsTheRow_65 0 rfl (.ref (h 52)) rfl ?_
              refine g_Vpi C (pc := 68) (As := []) (kX1_size l D cA T 10 (sh 52 h) (sh 52 M4) hz4.2.2.2.2.2.2.2.2.2.2.2.2.2.2.2.2.2.2.2.2.2.1) (v_main_cells_52 cA h M4) gX4_fitsTheRow_X1_size rfl ⟨rfl, rfl⟩ ⟨Nat.le_of_ble_eq_true rfl, Nat.le_of_ble_eq_true rfl⟩ ⟨Nat.zero_le _, Nat.zero_le _⟩ rfl (Nat.le_of_ble_eq_true rfl) hdV_X1_size 0 rfl rfl rfl dX4_fitsTheRow_68 ?_
              refine g_icmp_ge C (pc := 71) 105 dX4_fitsTheRow_71 (by decide) (fun c7 => ?_) (fun c7 => ?_)
              · refine g_iconst C (pc := 105) dX4_fitsTheRow_105 cI_1 ?_
                exact r_ez C rfl (rfl) dX4_fitsTheRow_106 hz4
              · refine g_aload_n C (pc := 74) dX4_fitsTheRow_74 0 rfl ?_
                refine g_get C (pc := 75) inX4_fitsTheRow_4 rfl 5 (by decide) (List.mem_of_getElem? (i := 1) rfl) dX4_fitsTheRow_75 0 rfl (.ref (h 52)) rfl ?_
                refine g_iload C (pc := 78) dX4_fitsTheRow_78 3 rfl ?_
                refine g_Vpi C (pc := 80) (As := [.int v6]) (kX1_at l D cA T 10 (sh 52 h) (sh 52 M4) v6 hz4.2.2.2.2.2.2.2.2.2.2.2.2.2.2.2.2.2.2.2.2.2.1) (v_main_cells_52 cA h M4) gX4_fitsTheRow_X1_at rfl ⟨rfl, rfl⟩ ⟨Nat.le_of_ble_eq_true rfl, Nat.le_of_ble_eq_true rfl⟩ ⟨Nat.zero_le _, Nat.zero_le _⟩ rfl (Nat.le_of_ble_eq_true rfl) hdV_X1_at 0 rfl rfl rfl dX4_fitsTheRow_80 ?_
                refine g_aload_n C (pc := 83) dX4_fitsTheRow_83 2 rfl ?_
                refine g_iload C (pc := 84) dX4_fitsTheRow_84 3 rfl ?_
                refine g_Vpi C (pc := 86) (As := [.int v6]) (kX0_gapAt l D cA T (sh 25 h) (sh 25 M4) v6 ⟨hz4.2.2.2.2.2.2.2.2.2.2.1, hz4.2.2.2.2.2.2.2.2.2.2.2.1, hz4.2.2.2.2.2.2.2.2.2.2.2.2.1, hz4.2.2.2.2.2.2.2.2.2.2.2.2.2.1, hz4.2.2.2.2.2.2.2.2.2.2.2.2.2.2.1⟩) (v_main_bird_25 cA h M4) gX4_fitsTheRow_X0_gapAt rfl ⟨rfl, rfl⟩ ⟨Nat.le_of_ble_eq_true rfl, Nat.le_of_ble_eq_true rfl⟩ ⟨Nat.zero_le _, Nat.zero_le _⟩ rfl (Nat.le_of_ble_eq_true rfl) hdV_X0_gapAt 0 rfl rfl rfl dX4_fitsTheRow_86 ?_
                refine g_isub C (pc := 89) dX4_fitsTheRow_89 ?_
                refine g_abs C (pc := 90) (List.mem_of_getElem? (i := 2) rfl) (List.mem_of_getElem? (i := 3) rfl) (List.mem_of_getElem? (i := 4) rfl) (List.mem_of_getElem? (i := 5) rfl) ⟨Nat.le_of_ble_eq_true rfl, Nat.le_of_ble_eq_true rfl, Nat.zero_le _, Nat.zero_le _⟩ dX4_fitsTheRow_90 ?_
                refine g_iload_n C (pc := 93) dX4_fitsTheRow_93 1 rfl ?_
                refine g_icmp_le C (pc := 94) 99 dX4_fitsTheRow_94 (by decide) (fun c8 => ?_) (fun c8 => ?_)
                · refine g_iincN C (pc := 99) 1 (fun y => [(4, .int y), (0, .ref (h 0)), (2, .int p1), (3, .ref (h 25))]) dX4_fitsTheRow_99 3 rfl cI_1 (by decide) (fun _ => rfl) (fun x9 ex9 => ?_)
                  refine g_goto C (pc := 102) 62 dX4_fitsTheRow_102 (by decide) ?_
                  refine g_sub [1, 2, 3, 0] rfl ?_
                  exact ih x9 (by rw [ex9]; exact lp_dec c7 hmu)
                · refine g_iconst C (pc := 97) dX4_fitsTheRow_97 cI_0 ?_
                  exact r_ez C rfl (rfl) dX4_fitsTheRow_98 hz4
          refine g_sub [1, 2, 3, 0] rfl ?_
          exact L62 _ 0 (Nat.lt_succ_self _)
        · refine g_iconst C (pc := 57) dX4_fitsTheRow_57 cI_0 ?_
          exact r_ez C rfl (rfl) dX4_fitsTheRow_58 hz4
      refine g_icmp_ge C (pc := 16) 43 dX4_fitsTheRow_16 (by decide) (fun c10 => ?_) (fun c10 => ?_)
      · refine g_sub [0, 1, 2] rfl ?_
        exact J43 M3 hz3
      · refine g_aload_n C (pc := 19) dX4_fitsTheRow_19 2 rfl ?_
        refine g_Vpi C (pc := 20) (As := []) (kX0_gaps l D cA T (sh 25 h) (sh 25 M3) ⟨hz3.2.2.2.2.2.2.2.2.2.2.1, hz3.2.2.2.2.2.2.2.2.2.2.2.1, hz3.2.2.2.2.2.2.2.2.2.2.2.2.1, hz3.2.2.2.2.2.2.2.2.2.2.2.2.2.1, hz3.2.2.2.2.2.2.2.2.2.2.2.2.2.2.1⟩) (v_main_bird_25 cA h M3) gX4_fitsTheRow_X0_gaps rfl ⟨rfl, rfl⟩ ⟨Nat.le_of_ble_eq_true rfl, Nat.le_of_ble_eq_true rfl⟩ ⟨Nat.zero_le _, Nat.zero_le _⟩ rfl (Nat.le_of_ble_eq_true rfl) hdV_X0_gaps 0 rfl rfl rfl dX4_fitsTheRow_20 ?_
        refine g_aload_n C (pc := 23) dX4_fitsTheRow_23 0 rfl ?_
        refine g_get C (pc := 24) inX4_fitsTheRow_4 rfl 5 (by decide) (List.mem_of_getElem? (i := 1) rfl) dX4_fitsTheRow_24 0 rfl (.ref (h 52)) rfl ?_
        refine g_Vpi C (pc := 27) (As := []) (kX1_size l D cA T 10 (sh 52 h) (sh 52 M3) hz3.2.2.2.2.2.2.2.2.2.2.2.2.2.2.2.2.2.2.2.2.2.1) (v_main_cells_52 cA h M3) gX4_fitsTheRow_X1_size rfl ⟨rfl, rfl⟩ ⟨Nat.le_of_ble_eq_true rfl, Nat.le_of_ble_eq_true rfl⟩ ⟨Nat.zero_le _, Nat.zero_le _⟩ rfl (Nat.le_of_ble_eq_true rfl) hdV_X1_size 0 rfl rfl rfl dX4_fitsTheRow_27 ?_
        refine g_icmp_ge C (pc := 30) 43 dX4_fitsTheRow_30 (by decide) (fun c11 => ?_) (fun c11 => ?_)
        · refine g_sub [0, 1, 2] rfl ?_
          exact J43 M3 hz3
        · refine g_aload_n C (pc := 33) dX4_fitsTheRow_33 2 rfl ?_
          refine g_Vev C (pc := 34) (As := []) (kX0_tenth l D cA T (sh 25 h) (sh 25 M3) ⟨hz3.2.2.2.2.2.2.2.2.2.2.1, hz3.2.2.2.2.2.2.2.2.2.2.2.1, hz3.2.2.2.2.2.2.2.2.2.2.2.2.1, hz3.2.2.2.2.2.2.2.2.2.2.2.2.2.1, hz3.2.2.2.2.2.2.2.2.2.2.2.2.2.2.1⟩) (v_main_bird_25 cA h M3) gX4_fitsTheRow_X0_tenth rfl ⟨rfl, rfl⟩ ⟨Nat.le_of_ble_eq_true rfl, Nat.le_of_ble_eq_true rfl⟩ ⟨Nat.zero_le _, Nat.zero_le _⟩ rfl (Nat.le_of_ble_eq_true rfl) hdV_X0_tenth 0 rfl rfl rfl dX4_fitsTheRow_34 (fun z12 ez12 hz_z12 => ?_)
          refine g_nmW (mainW cA h) (fun M13 eM13 => ?_)
          have hz13 : (Zmain M13) := by rw [eM13]; exact ⟨hz3.1, hz3.2.1, hz3.2.2.1, hz3.2.2.2.1, hz3.2.2.2.2.1, hz3.2.2.2.2.2.1, hz3.2.2.2.2.2.2.1, hz3.2.2.2.2.2.2.2.1, hz3.2.2.2.2.2.2.2.2.1, hz3.2.2.2.2.2.2.2.2.2.1, hz_z12.1, hz_z12.2.1, hz_z12.2.2.1, hz_z12.2.2.2.1, hz_z12.2.2.2.2, hz3.2.2.2.2.2.2.2.2.2.2.2.2.2.2.2.1, hz3.2.2.2.2.2.2.2.2.2.2.2.2.2.2.2.2.1, hz3.2.2.2.2.2.2.2.2.2.2.2.2.2.2.2.2.2.1, hz3.2.2.2.2.2.2.2.2.2.2.2.2.2.2.2.2.2.2.1, hz3.2.2.2.2.2.2.2.2.2.2.2.2.2.2.2.2.2.2.2.1, hz3.2.2.2.2.2.2.2.2.2.2.2.2.2.2.2.2.2.2.2.2.1, hz3.2.2.2.2.2.2.2.2.2.2.2.2.2.2.2.2.2.2.2.2.2.1, hz3.2.2.2.2.2.2.2.2.2.2.2.2.2.2.2.2.2.2.2.2.2.2⟩
          refine g_iincN C (pc := 37) 1 (fun y => [(4, .int y), (0, .ref (h 0)), (2, .int p1), (3, .ref (h 25))]) dX4_fitsTheRow_37 3 rfl cI_1 (by decide) (fun _ => rfl) (fun x14 ex14 => ?_)
          refine g_goto C (pc := 40) 11 dX4_fitsTheRow_40 (by decide) ?_
          refine g_sub [1, 2, 3, 0] rfl ?_
          exact ih M13 x14 hz13 (by rw [ex14]; exact lp_dec c10 hmu)
  refine g_sub [2, 4, 1, 0] rfl ?_
  exact L11 _ M1 0 hz1 (Nat.lt_succ_self _)
theorem inX4_driest_4 : ∀ w ∈ u_ws RX4 TX4 8, w ∈ wsX4_driest := by decide +kernel
noncomputable def xX4_driest_j9 (M1 : St) : Int32 × St := nm (xX4_refuse M1 (-2)) fun z2 => nm (z2.2) fun M3 => (z2.1, M3)
noncomputable def xX4_driest_l79 : Nat → St → Int32 → Int32 → Int32 → Int32 → Int32 → Int32 → Int32 × St
  | 0, M21, _, _, _, _, _, _ => (0, M21)
  | k + 1, M21, p0, p1, v17, v18, v19, v20 => if 95 < v20 then (if p1 = 0 then ((v17, M21)) else (if p1 = 1 then ((v18, M21)) else ((v19, M21)))) else (nm (xX4_fitsTheRow M21 v20 p0) fun z25 => nm (z25.2) fun M26 => if z25.1 = 0 then (nm (v20 + 5 : Int32) fun x28 => xX4_driest_l79 k M26 p0 p1 v17 v18 v19 x28) else (nm (if v19 = 0 then (v20) else (v17) : Int32) fun v30 => nm (v19 + 1 : Int32) fun x31 => nm (v20 + 5 : Int32) fun x32 => xX4_driest_l79 k M26 p0 p1 v30 v20 x31 x32))
noncomputable def xX4_driest (M : St) (p0 : Int32) (p1 : Int32) : Int32 × St := if p1 < 0 then (xX4_driest_j9 M ) else (if p1 ≤ 2 then (nm (if 0 ≤ p0 then (0) else (1) : Int32) fun v7 => nm (if p0 ≤ 9999 then (0) else (1) : Int32) fun v9 => nm (xX4_outside M v7 v9) fun z10 => nm (z10.2) fun M11 => nm (z10.1 : Int32) fun x12 => if x12 = 0 then (if (xX1_size 10 (sh 52 M11)) = 0 then (nm (xX4_refuse M11 (-3)) fun z33 => nm (z33.2) fun M34 => (z33.1, M34)) else (nm ((-9) : Int32) fun x15 => nm ((-9) : Int32) fun x16 => xX4_driest_l79 (muE 0 95 + 1) M11 p0 p1 x15 x16 0 0)) else ((x12, M11))) else (xX4_driest_j9 M ))
set_option maxHeartbeats 4000000 in
set_option maxRecDepth 100000 in
theorem kX4_driest (l : Launch) (D : va_G) (cA : ClassId) (T : Nat × Nat × Nat) (h : Nat → Nat) (M : St) (p0 : Int32) (p1 : Int32) (hz : (Zmain M)) : ∀ sz : Nat, Met l yX4_driest wsX4_driest { frames := 5, cells := 0, slots := 0, locals := 155 } (va_Pc [.ref (h 0), .int p0, .int p1] (PreW D cA T (mainW cA h M) sz)) (va_Qi (fun r u => (r, u) = (xX4_driest M p0 p1) ∧ (Zmain) u) (fun u => PostW D cA (va_A (mainW cA h M) sz) (mainW cA h u)) (va_A (mainW cA h M) sz)) 0 0 (va_A (mainW cA h M) sz) := by
  refine m_ei (Wf := mainW cA h) (inv := (Zmain)) (cc := cX4_driest) (maxL := 8) (own := RX4) (by decide) rfl rfl (Nat.le_of_ble_eq_true rfl) (fun {p e s m args below meth c} A C X => ?_)
  show G p l e { frames := 5, cells := 0, slots := 0, locals := 155 } s m args below meth c 0 0 D A (Qei below D cA A args s 0 0 (mainW cA h) (Zmain) X) 8 X (xX4_driest M p0 p1) (mainW cA h M) 0 [(0, .ref (h 0)), (1, .int p0), (2, .int p1)] []
  unfold xX4_driest
  refine g_iload_n C (pc := 0) dX4_driest_0 2 rfl ?_
  have J9 : ∀ (M1 : St), (Zmain M1) → G p l e { frames := 5, cells := 0, slots := 0, locals := 155 } s m args below meth c 0 0 D A (Qei below D cA A args s 0 0 (mainW cA h) (Zmain) X) 8 X (xX4_driest_j9 M1 ) (mainW cA h M1) 9 [(0, .ref (h 0))] [] := by
    intro M1 hz1
    unfold xX4_driest_j9
    refine g_aload_n C (pc := 9) dX4_driest_9 0 rfl ?_
    refine g_bipush C (pc := 10) dX4_driest_10 cB_m2 ?_
    refine g_Vei C (pc := 12) (As := [.int (-2)]) (kX4_refuse l D cA T h M1 (-2) hz1) (v_id (mainW cA h) M1 56 (fun _ => rfl) rfl) gX4_driest_X4_refuse rfl ⟨rfl, rfl⟩ ⟨Nat.le_of_ble_eq_true rfl, Nat.le_of_ble_eq_true rfl⟩ ⟨Nat.zero_le _, Nat.zero_le _⟩ rfl (Nat.le_of_ble_eq_true rfl) hdV_X4_refuse 0 rfl rfl rfl dX4_driest_12 (fun z2 ez2 hz_z2 => ?_)
    refine g_nmW (mainW cA h) (fun M3 eM3 => ?_)
    have hz3 : (Zmain M3) := by rw [eM3]; exact hz_z2
    exact r_ei C rfl dX4_driest_15 hz3
  refine g_if_lt C (pc := 1) 9 dX4_driest_1 (by decide) (fun c4 => ?_) (fun c4 => ?_)
  · refine g_sub [0] rfl ?_
    exact J9 M hz
  · refine g_iload_n C (pc := 4) dX4_driest_4 2 rfl ?_
    refine g_iconst C (pc := 5) dX4_driest_5 cI_2 ?_
    refine g_icmp_le C (pc := 6) 16 dX4_driest_6 (by decide) (fun c5 => ?_) (fun c5 => ?_)
    · refine g_aload_n C (pc := 16) dX4_driest_16 0 rfl ?_
      refine g_iload_n C (pc := 17) dX4_driest_17 1 rfl ?_
      refine g_join (α := Int32) (fun v7 => [(0, .ref (h 0)), (1, .int p0), (2, .int p1)]) (fun v7 => [.int v7, .ref (h 0)]) 26 (fun v7 ev7 => ?_) (fun Jv7 => ?_)
      · refine g_iload_n C (pc := 26) dX4_driest_26 1 rfl ?_
        refine g_sipush C (pc := 27) dX4_driest_27 cS_9999 ?_
        refine g_join (α := Int32) (fun v9 => [(0, .ref (h 0)), (1, .int p0), (2, .int p1)]) (fun v9 => [.int v9, .int v7, .ref (h 0)]) 38 (fun v9 ev9 => ?_) (fun Jv9 => ?_)
        · refine g_Vei C (pc := 38) (As := [.int v7, .int v9]) (kX4_outside l D cA T h M v7 v9 hz) (v_id (mainW cA h) M 56 (fun _ => rfl) rfl) gX4_driest_X4_outside rfl ⟨rfl, rfl⟩ ⟨Nat.le_of_ble_eq_true rfl, Nat.le_of_ble_eq_true rfl⟩ ⟨Nat.zero_le _, Nat.zero_le _⟩ rfl (Nat.le_of_ble_eq_true rfl) hdV_X4_outside 0 rfl rfl rfl dX4_driest_38 (fun z10 ez10 hz_z10 => ?_)
          refine g_nmW (mainW cA h) (fun M11 eM11 => ?_)
          have hz11 : (Zmain M11) := by rw [eM11]; exact hz_z10
          refine g_nmi (fun x12 ex12 => ?_)
          refine g_istore_n C (pc := 41) [(3, .int x12), (0, .ref (h 0)), (1, .int p0), (2, .int p1)] dX4_driest_41 (by decide) rfl ?_
          refine g_iload_n C (pc := 42) dX4_driest_42 0 rfl ?_
          refine g_if_eq C (pc := 43) 48 dX4_driest_43 (by decide) (fun c13 => ?_) (fun c13 => ?_)
          · refine g_aload_n C (pc := 48) dX4_driest_48 1 rfl ?_
            refine g_get C (pc := 49) inX4_driest_4 rfl 5 (by decide) (List.mem_of_getElem? (i := 1) rfl) dX4_driest_49 0 rfl (.ref (h 52)) rfl ?_
            refine g_Vpi C (pc := 52) (As := []) (kX1_size l D cA T 10 (sh 52 h) (sh 52 M11) hz11.2.2.2.2.2.2.2.2.2.2.2.2.2.2.2.2.2.2.2.2.2.1) (v_main_cells_52 cA h M11) gX4_driest_X1_size rfl ⟨rfl, rfl⟩ ⟨Nat.le_of_ble_eq_true rfl, Nat.le_of_ble_eq_true rfl⟩ ⟨Nat.zero_le _, Nat.zero_le _⟩ rfl (Nat.le_of_ble_eq_true rfl) hdV_X1_size 0 rfl rfl rfl dX4_driest_52 ?_
            refine g_if_ne C (pc := 55) 65 dX4_driest_55 (by decide) (fun c14 => ?_) (fun c14 => ?_)
            · refine g_bipush C (pc := 65) dX4_driest_65 cB_m9 ?_
              refine g_nmi (fun x15 ex15 => ?_)
              refine g_istore C (pc := 67) [(4, .int x15), (3, .int x12), (0, .ref (h 0)), (1, .int p0), (2, .int p1)] dX4_driest_67 (by decide) rfl ?_
              refine g_bipush C (pc := 69) dX4_driest_69 cB_m9 ?_
              refine g_nmi (fun x16 ex16 => ?_)
              refine g_istore C (pc := 71) [(5, .int x16), (4, .int x15), (3, .int x12), (0, .ref (h 0)), (1, .int p0), (2, .int p1)] dX4_driest_71 (by decide) rfl ?_
              refine g_iconst C (pc := 73) dX4_driest_73 cI_0 ?_
              refine g_istore C (pc := 74) [(6, .int 0), (5, .int x16), (4, .int x15), (3, .int x12), (0, .ref (h 0)), (1, .int p0), (2, .int p1)] dX4_driest_74 (by decide) rfl ?_
              refine g_iconst C (pc := 76) dX4_driest_76 cI_0 ?_
              refine g_istore C (pc := 77) [(7, .int 0), (6, .int 0), (5, .int x16), (4, .int x15), (3, .int x12), (0, .ref (h 0)), (1, .int p0), (2, .int p1)] dX4_driest_77 (by decide) rfl ?_
              have L79 : ∀ (k : Nat) (M21 : St) (v17 : Int32) (v18 : Int32) (v19 : Int32) (v20 : Int32), (Zmain M21) → muE v20 95 < k → G p l e { frames := 5, cells := 0, slots := 0, locals := 155 } s m args below meth c 0 0 D A (Qei below D cA A args s 0 0 (mainW cA h) (Zmain) X) 8 X (xX4_driest_l79 k M21 p0 p1 v17 v18 v19 v20) (mainW cA h M21) 79 [(0, .ref (h 0)), (1, .int p0), (2, .int p1), (4, .int v17), (5, .int v18), (6, .int v19), (7, .int v20)] [] := by
                intro k
                induction k with
                | zero => intro M21 v17 v18 v19 v20 hz21 hmu; exact absurd hmu (Nat.not_lt_zero _)
                | succ k ih =>
                  intro M21 v17 v18 v19 v20 hz21 hmu
                  rw [xX4_driest_l79]
                  refine g_iload C (pc := 79) dX4_driest_79 6 rfl ?_
                  refine g_bipush C (pc := 81) dX4_driest_81 cB_95 ?_
                  refine g_icmp_gt C (pc := 83) 123 dX4_driest_83 (by decide) (fun c22 => ?_) (fun c22 => ?_)
                  · refine g_iload_n C (pc := 123) dX4_driest_123 2 rfl ?_
                    refine g_if_ne C (pc := 124) 132 dX4_driest_124 (by decide) (fun c23 => ?_) (fun c23 => ?_)
                    · refine g_iload_n C (pc := 132) dX4_driest_132 2 rfl ?_
                      refine g_iconst C (pc := 133) dX4_driest_133 cI_1 ?_
                      refine g_icmp_ne C (pc := 134) 142 dX4_driest_134 (by decide) (fun c24 => ?_) (fun c24 => ?_)
                      · refine g_iload C (pc := 142) dX4_driest_142 5 rfl ?_
                        exact r_ei C rfl dX4_driest_144 hz21
                      · refine g_iload C (pc := 137) dX4_driest_137 4 rfl ?_
                        refine g_goto C (pc := 139) 144 dX4_driest_139 (by decide) ?_
                        exact r_ei C rfl dX4_driest_144 hz21
                    · refine g_iload C (pc := 127) dX4_driest_127 3 rfl ?_
                      refine g_goto C (pc := 129) 144 dX4_driest_129 (by decide) ?_
                      exact r_ei C rfl dX4_driest_144 hz21
                  · refine g_aload_n C (pc := 86) dX4_driest_86 0 rfl ?_
                    refine g_iload C (pc := 87) dX4_driest_87 6 rfl ?_
                    refine g_iload_n C (pc := 89) dX4_driest_89 1 rfl ?_
                    refine g_Vei C (pc := 90) (As := [.int v20, .int p0]) (kX4_fitsTheRow l D cA T h M21 v20 p0 hz21) (v_id (mainW cA h) M21 56 (fun _ => rfl) rfl) gX4_driest_X4_fitsTheRow rfl ⟨rfl, rfl⟩ ⟨Nat.le_of_ble_eq_true rfl, Nat.le_of_ble_eq_true rfl⟩ ⟨Nat.zero_le _, Nat.zero_le _⟩ rfl (Nat.le_of_ble_eq_true rfl) hdV_X4_fitsTheRow 0 rfl rfl rfl dX4_driest_90 (fun z25 ez25 hz_z25 => ?_)
                    refine g_nmW (mainW cA h) (fun M26 eM26 => ?_)
                    have hz26 : (Zmain M26) := by rw [eM26]; exact hz_z25
                    refine g_if_eq C (pc := 93) 117 dX4_driest_93 (by decide) (fun c27 => ?_) (fun c27 => ?_)
                    · refine g_iincN C (pc := 117) 5 (fun y => [(7, .int y), (0, .ref (h 0)), (1, .int p0), (2, .int p1), (4, .int v17), (5, .int v18), (6, .int v19)]) dX4_driest_117 6 rfl cI_5 (by decide) (fun _ => rfl) (fun x28 ex28 => ?_)
                      refine g_goto C (pc := 120) 79 dX4_driest_120 (by decide) ?_
                      refine g_sub [1, 2, 3, 4, 5, 6, 0] rfl ?_
                      exact ih M26 v17 v18 v19 x28 hz26 (by rw [ex28]; exact lp_decE (d := 5) (by decide) (by decide) c22 hmu)
                    · refine g_iload C (pc := 96) dX4_driest_96 5 rfl ?_
                      refine g_join (α := Int32) (fun v30 => [(0, .ref (h 0)), (1, .int p0), (2, .int p1), (6, .int v19), (7, .int v20)]) (fun v30 => [.int v30]) 108 (fun v30 ev30 => ?_) (fun Jv30 => ?_)
                      · refine g_istore C (pc := 108) [(4, .int v30), (0, .ref (h 0)), (1, .int p0), (2, .int p1), (6, .int v19), (7, .int v20)] dX4_driest_108 (by decide) rfl ?_
                        refine g_iload C (pc := 110) dX4_driest_110 5 rfl ?_
                        refine g_istore C (pc := 112) [(5, .int v20), (4, .int v30), (0, .ref (h 0)), (1, .int p0), (2, .int p1), (6, .int v19), (7, .int v20)] dX4_driest_112 (by decide) rfl ?_
                        refine g_iincN C (pc := 114) 1 (fun y => [(6, .int y), (5, .int v20), (4, .int v30), (0, .ref (h 0)), (1, .int p0), (2, .int p1), (7, .int v20)]) dX4_driest_114 5 rfl cI_1 (by decide) (fun _ => rfl) (fun x31 ex31 => ?_)
                        refine g_iincN C (pc := 117) 5 (fun y => [(7, .int y), (6, .int x31), (5, .int v20), (4, .int v30), (0, .ref (h 0)), (1, .int p0), (2, .int p1)]) dX4_driest_117 6 rfl cI_5 (by decide) (fun _ => rfl) (fun x32 ex32 => ?_)
                        refine g_goto C (pc := 120) 79 dX4_driest_120 (by decide) ?_
                        refine g_sub [4, 5, 6, 3, 2, 1, 0] rfl ?_
                        exact ih M26 v30 v20 x31 x32 hz26 (by rw [ex32]; exact lp_decE (d := 5) (by decide) (by decide) c22 hmu)
                      · refine g_if_ne0 C (pc := 98) 106 dX4_driest_98 (by decide) (fun c29 => ?_) (fun c29 => ?_)
                        · refine g_iload C (pc := 106) dX4_driest_106 3 rfl ?_
                          refine g_sub [0, 1, 2, 5, 6] rfl ?_
                          exact g_lf (if_neg c29) (Jv30 _ (Eq.symm (if_neg c29)))
                        · refine g_iload C (pc := 101) dX4_driest_101 6 rfl ?_
                          refine g_goto C (pc := 103) 108 dX4_driest_103 (by decide) ?_
                          refine g_sub [0, 1, 2, 5, 6] rfl ?_
                          exact g_lf (if_pos c29) (Jv30 _ (Eq.symm (if_pos c29)))
              refine g_sub [5, 6, 7, 3, 2, 1, 0] rfl ?_
              exact L79 _ M11 x15 x16 0 0 hz11 (Nat.lt_succ_self _)
            · refine g_aload_n C (pc := 58) dX4_driest_58 1 rfl ?_
              refine g_bipush C (pc := 59) dX4_driest_59 cB_m3 ?_
              refine g_Vei C (pc := 61) (As := [.int (-3)]) (kX4_refuse l D cA T h M11 (-3) hz11) (v_id (mainW cA h) M11 56 (fun _ => rfl) rfl) gX4_driest_X4_refuse rfl ⟨rfl, rfl⟩ ⟨Nat.le_of_ble_eq_true rfl, Nat.le_of_ble_eq_true rfl⟩ ⟨Nat.zero_le _, Nat.zero_le _⟩ rfl (Nat.le_of_ble_eq_true rfl) hdV_X4_refuse 0 rfl rfl rfl dX4_driest_61 (fun z33 ez33 hz_z33 => ?_)
              refine g_nmW (mainW cA h) (fun M34 eM34 => ?_)
              have hz34 : (Zmain M34) := by rw [eM34]; exact hz_z33
              exact r_ei C rfl dX4_driest_64 hz34
          · refine g_iload_n C (pc := 46) dX4_driest_46 0 rfl ?_
            exact r_ei C rfl dX4_driest_47 hz11
        · refine g_icmp_le0 C (pc := 30) 37 dX4_driest_30 (by decide) (fun c8 => ?_) (fun c8 => ?_)
          · refine g_iconst C (pc := 37) dX4_driest_37 cI_0 ?_
            refine g_sub [0, 1, 2] rfl ?_
            exact g_lf (if_pos c8) (Jv9 _ (Eq.symm (if_pos c8)))
          · refine g_iconst C (pc := 33) dX4_driest_33 cI_1 ?_
            refine g_goto C (pc := 34) 38 dX4_driest_34 (by decide) ?_
            refine g_sub [0, 1, 2] rfl ?_
            exact g_lf (if_neg c8) (Jv9 _ (Eq.symm (if_neg c8)))
      · refine g_if_ge0 C (pc := 18) 25 dX4_driest_18 (by decide) (fun c6 => ?_) (fun c6 => ?_)
        · refine g_iconst C (pc := 25) dX4_driest_25 cI_0 ?_
          refine g_sub [0, 1, 2] rfl ?_
          exact g_lf (if_pos c6) (Jv7 _ (Eq.symm (if_pos c6)))
        · refine g_iconst C (pc := 21) dX4_driest_21 cI_1 ?_
          refine g_goto C (pc := 22) 26 dX4_driest_22 (by decide) ?_
          refine g_sub [0, 1, 2] rfl ?_
          exact g_lf (if_neg c6) (Jv7 _ (Eq.symm (if_neg c6)))
    · refine g_sub [0] rfl ?_
      exact J9 M hz

noncomputable def xX4_sortBits_l20 : Nat → St → Int32 → Int32 → Int32 → Int32 → Int32 → Int32 → St × Int32
  | 0, M13, _, _, _, _, _, _ => (M13, 0)
  | k + 1, M13, p0, p1, v1, v2, v11, v12 => if v12 < 1 then ((M13, v11)) else (if v11 = 0 then ((M13, v11)) else (nm (xX4_freshWith M13 3 v2) fun M16 => nm (xX0_with (sh 25 M16) 8 ((p0 / v12) - (p0 / v12) / 100 * 100)) fun z17 => nm (put 25 12 z17 M16) fun M18 => nm (xX0_nodsIn (sh 25 M18) 1000) fun z19 => nm (put 25 12 z19.2 M18) fun M20 => nm (if z19.1 = ((p1 / v12) - (p1 / v12) / 100 * 100) then (1) else (0) : Int32) fun v22 => nm ((v12 / 100) : Int32) fun x23 => xX4_sortBits_l20 k M20 p0 p1 v1 v2 v22 x23))
noncomputable def xX4_sortBits_l5 : Nat → St → Int32 → Int32 → Int32 → Int32 → Int32 × St
  | 0, M3, _, _, _, _ => (0, M3)
  | k + 1, M3, p0, p1, v1, v2 => if 9 < v2 then ((v1, M3)) else (nm (xX4_sortBits_l20 ((10000 : Int32).toInt.toNat + 1) M3 p0 p1 v1 v2 1 10000 : St × Int32) fun w5 => nm (w5.1) fun M6 => if w5.2 = 0 then (nm (v2 + 1 : Int32) fun x8 => xX4_sortBits_l5 k M6 p0 p1 v1 x8) else (nm ((v1 ||| (1 <<< (v2 &&& 31))) : Int32) fun x9 => nm (v2 + 1 : Int32) fun x10 => xX4_sortBits_l5 k M6 p0 p1 x9 x10))
noncomputable def xX4_sortBits (M : St) (p0 : Int32) (p1 : Int32) : Int32 × St := xX4_sortBits_l5 (muE 1 9 + 1) M p0 p1 0 1
set_option maxHeartbeats 4000000 in
set_option maxRecDepth 100000 in
theorem kX4_sortBits (l : Launch) (D : va_G) (cA : ClassId) (T : Nat × Nat × Nat) (h : Nat → Nat) (M : St) (p0 : Int32) (p1 : Int32) (hz : (Zmain M)) : ∀ sz : Nat, Met l yX4_sortBits wsX4_sortBits { frames := 5, cells := 0, slots := 0, locals := 131 } (va_Pc [.ref (h 0), .int p0, .int p1] (PreW D cA T (mainW cA h M) sz)) (va_Qi (fun r u => (r, u) = (xX4_sortBits M p0 p1) ∧ (Zmain) u) (fun u => PostW D cA (va_A (mainW cA h M) sz) (mainW cA h u)) (va_A (mainW cA h M) sz)) 0 0 (va_A (mainW cA h M) sz) := by
  refine m_ei (Wf := mainW cA h) (inv := (Zmain)) (cc := cX4_sortBits) (maxL := 8) (own := RX4) (by decide) rfl rfl (Nat.le_of_ble_eq_true rfl) (fun {p e s m args below meth c} A C X => ?_)
  show G p l e { frames := 5, cells := 0, slots := 0, locals := 131 } s m args below meth c 0 0 D A (Qei below D cA A args s 0 0 (mainW cA h) (Zmain) X) 8 X (xX4_sortBits M p0 p1) (mainW cA h M) 0 [(0, .ref (h 0)), (1, .int p0), (2, .int p1)] []
  unfold xX4_sortBits
  refine g_iconst C (pc := 0) dX4_sortBits_0 cI_0 ?_
  refine g_istore_n C (pc := 1) [(3, .int 0), (0, .ref (h 0)), (1, .int p0), (2, .int p1)] dX4_sortBits_1 (by decide) rfl ?_
  refine g_iconst C (pc := 2) dX4_sortBits_2 cI_1 ?_
  refine g_istore C (pc := 3) [(4, .int 1), (3, .int 0), (0, .ref (h 0)), (1, .int p0), (2, .int p1)] dX4_sortBits_3 (by decide) rfl ?_
  have L5 : ∀ (k : Nat) (M3 : St) (v1 : Int32) (v2 : Int32), (Zmain M3) → muE v2 9 < k → G p l e { frames := 5, cells := 0, slots := 0, locals := 131 } s m args below meth c 0 0 D A (Qei below D cA A args s 0 0 (mainW cA h) (Zmain) X) 8 X (xX4_sortBits_l5 k M3 p0 p1 v1 v2) (mainW cA h M3) 5 [(0, .ref (h 0)), (1, .int p0), (2, .int p1), (3, .int v1), (4, .int v2)] [] := by
    intro k
    induction k with
    | zero => intro M3 v1 v2 hz3 hmu; exact absurd hmu (Nat.not_lt_zero _)
    | succ k ih =>
      intro M3 v1 v2 hz3 hmu
      rw [xX4_sortBits_l5]
      refine g_iload C (pc := 5) dX4_sortBits_5 4 rfl ?_
      refine g_bipush C (pc := 7) dX4_sortBits_7 cB_9 ?_
      refine g_icmp_gt C (pc := 9) 105 dX4_sortBits_9 (by decide) (fun c4 => ?_) (fun c4 => ?_)
      · refine g_iload_n C (pc := 105) dX4_sortBits_105 3 rfl ?_
        exact r_ei C rfl dX4_sortBits_106 hz3
      · refine g_iconst C (pc := 12) dX4_sortBits_12 cI_1 ?_
        refine g_istore C (pc := 13) [(5, .int 1), (0, .ref (h 0)), (1, .int p0), (2, .int p1), (3, .int v1), (4, .int v2)] dX4_sortBits_13 (by decide) rfl ?_
        refine g_sipush C (pc := 15) dX4_sortBits_15 cS_10000 ?_
        refine g_istore C (pc := 18) [(6, .int 10000), (5, .int 1), (0, .ref (h 0)), (1, .int p0), (2, .int p1), (3, .int v1), (4, .int v2)] dX4_sortBits_18 (by decide) rfl ?_
        refine g_inner (σ := St × Int32) (fun w5 : St × Int32 => (mainW cA h w5.1)) (fun w5 => [(0, .ref (h 0)), (1, .int p0), (2, .int p1), (3, .int v1), (4, .int v2), (5, .int (w5.2))]) 87 (fun w5 : St × Int32 => (Zmain w5.1)) (fun w5 ew5 hw5 => ?_) (fun X5 Jw5 => ?_)
        · refine g_nmW (mainW cA h) (fun M6 eM6 => ?_)
          have hz6 : (Zmain M6) := by rw [eM6]; exact hw5
          refine g_iload C (pc := 87) dX4_sortBits_87 5 rfl ?_
          refine g_if_eq C (pc := 89) 99 dX4_sortBits_89 (by decide) (fun c7 => ?_) (fun c7 => ?_)
          · refine g_iincN C (pc := 99) 1 (fun y => [(4, .int y), (0, .ref (h 0)), (1, .int p0), (2, .int p1), (3, .int v1), (5, .int (w5.2))]) dX4_sortBits_99 4 rfl cI_1 (by decide) (fun _ => rfl) (fun x8 ex8 => ?_)
            refine g_goto C (pc := 102) 5 dX4_sortBits_102 (by decide) ?_
            refine g_sub [1, 2, 3, 4, 0] rfl ?_
            exact ih M6 v1 x8 hz6 (by rw [ex8]; exact lp_decE (d := 1) (by decide) (by decide) c4 hmu)
          · refine g_iload_n C (pc := 92) dX4_sortBits_92 3 rfl ?_
            refine g_iconst C (pc := 93) dX4_sortBits_93 cI_1 ?_
            refine g_iload C (pc := 94) dX4_sortBits_94 4 rfl ?_
            refine g_ishl C (pc := 96) dX4_sortBits_96 ?_
            refine g_ior C (pc := 97) dX4_sortBits_97 ?_
            refine g_nmi (fun x9 ex9 => ?_)
            refine g_istore_n C (pc := 98) [(3, .int x9), (0, .ref (h 0)), (1, .int p0), (2, .int p1), (4, .int v2), (5, .int (w5.2))] dX4_sortBits_98 (by decide) rfl ?_
            refine g_iincN C (pc := 99) 1 (fun y => [(4, .int y), (3, .int x9), (0, .ref (h 0)), (1, .int p0), (2, .int p1), (5, .int (w5.2))]) dX4_sortBits_99 4 rfl cI_1 (by decide) (fun _ => rfl) (fun x10 ex10 => ?_)
            refine g_goto C (pc := 102) 5 dX4_sortBits_102 (by decide) ?_
            refine g_sub [2, 3, 4, 1, 0] rfl ?_
            exact ih M6 x9 x10 hz6 (by rw [ex10]; exact lp_decE (d := 1) (by decide) (by decide) c4 hmu)
        · have L20 : ∀ (k : Nat) (M13 : St) (v11 : Int32) (v12 : Int32), (Zmain M13) → (v12 : Int32).toInt.toNat < k → G p l e { frames := 5, cells := 0, slots := 0, locals := 131 } s m args below meth c 0 0 D A (Qei below D cA A args s 0 0 (mainW cA h) (Zmain) X) 8 X5 (xX4_sortBits_l20 k M13 p0 p1 v1 v2 v11 v12) (mainW cA h M13) 20 [(0, .ref (h 0)), (1, .int p0), (2, .int p1), (3, .int v1), (4, .int v2), (5, .int v11), (6, .int v12)] [] := by
            intro k
            induction k with
            | zero => intro M13 v11 v12 hz13 hmu; exact absurd hmu (Nat.not_lt_zero _)
            | succ k ih =>
              intro M13 v11 v12 hz13 hmu
              rw [xX4_sortBits_l20]
              refine g_iload C (pc := 20) dX4_sortBits_20 6 rfl ?_
              refine g_iconst C (pc := 22) dX4_sortBits_22 cI_1 ?_
              refine g_icmp_lt C (pc := 23) 87 dX4_sortBits_23 (by decide) (fun c14 => ?_) (fun c14 => ?_)
              · refine g_sub [0, 1, 2, 3, 4, 5] rfl ?_
                exact Jw5 (M13, v11) hz13
              · refine g_iload C (pc := 26) dX4_sortBits_26 5 rfl ?_
                refine g_if_eq C (pc := 28) 87 dX4_sortBits_28 (by decide) (fun c15 => ?_) (fun c15 => ?_)
                · refine g_sub [0, 1, 2, 3, 4, 5] rfl ?_
                  exact Jw5 (M13, v11) hz13
                · refine g_aload_n C (pc := 31) dX4_sortBits_31 0 rfl ?_
                  refine g_iconst C (pc := 32) dX4_sortBits_32 cI_3 ?_
                  refine g_iload C (pc := 33) dX4_sortBits_33 4 rfl ?_
                  refine g_Ver C (pc := 35) (As := [.int 3, .int v2]) (kX4_freshWith l D cA T h M13 3 v2 hz13) (v_id (mainW cA h) M13 56 (fun _ => rfl) rfl) gX4_sortBits_X4_freshWith rfl ⟨rfl, rfl⟩ ⟨Nat.le_of_ble_eq_true rfl, Nat.le_of_ble_eq_true rfl⟩ ⟨Nat.zero_le _, Nat.zero_le _⟩ rfl (Nat.le_of_ble_eq_true rfl) hdV_X4_freshWith 0 rfl rfl rfl dX4_sortBits_35 (fun M16 eM16 hz_M16 => ?_)
                  have hz16 := hz_M16
                  refine g_bipush C (pc := 38) dX4_sortBits_38 cB_8 ?_
                  refine g_iload_n C (pc := 40) dX4_sortBits_40 1 rfl ?_
                  refine g_iload C (pc := 41) dX4_sortBits_41 6 rfl ?_
                  refine g_idiv C (pc := 43) dX4_sortBits_43 (nz_ge1 c14) ?_
                  refine g_bipush C (pc := 44) dX4_sortBits_44 cB_100 ?_
                  refine g_irem C (pc := 46) dX4_sortBits_46 nz_100 ?_
                  refine g_Ver C (pc := 47) (As := [.int 8, .int ((p0 / v12) - (p0 / v12) / 100 * 100)]) (kX0_with l D cA T (sh 25 h) (sh 25 M16) 8 ((p0 / v12) - (p0 / v12) / 100 * 100) ⟨hz16.2.2.2.2.2.2.2.2.2.2.1, hz16.2.2.2.2.2.2.2.2.2.2.2.1, hz16.2.2.2.2.2.2.2.2.2.2.2.2.1, hz16.2.2.2.2.2.2.2.2.2.2.2.2.2.1, hz16.2.2.2.2.2.2.2.2.2.2.2.2.2.2.1⟩) (v_main_bird_25 cA h M16) gX4_sortBits_X0_with rfl ⟨rfl, rfl⟩ ⟨Nat.le_of_ble_eq_true rfl, Nat.le_of_ble_eq_true rfl⟩ ⟨Nat.zero_le _, Nat.zero_le _⟩ rfl (Nat.le_of_ble_eq_true rfl) hdV_X0_with 0 rfl rfl rfl dX4_sortBits_47 (fun z17 ez17 hz_z17 => ?_)
                  refine g_nmW (mainW cA h) (fun M18 eM18 => ?_)
                  have hz18 : (Zmain M18) := by rw [eM18]; exact ⟨hz16.1, hz16.2.1, hz16.2.2.1, hz16.2.2.2.1, hz16.2.2.2.2.1, hz16.2.2.2.2.2.1, hz16.2.2.2.2.2.2.1, hz16.2.2.2.2.2.2.2.1, hz16.2.2.2.2.2.2.2.2.1, hz16.2.2.2.2.2.2.2.2.2.1, hz_z17.1, hz_z17.2.1, hz_z17.2.2.1, hz_z17.2.2.2.1, hz_z17.2.2.2.2, hz16.2.2.2.2.2.2.2.2.2.2.2.2.2.2.2.1, hz16.2.2.2.2.2.2.2.2.2.2.2.2.2.2.2.2.1, hz16.2.2.2.2.2.2.2.2.2.2.2.2.2.2.2.2.2.1, hz16.2.2.2.2.2.2.2.2.2.2.2.2.2.2.2.2.2.2.1, hz16.2.2.2.2.2.2.2.2.2.2.2.2.2.2.2.2.2.2.2.1, hz16.2.2.2.2.2.2.2.2.2.2.2.2.2.2.2.2.2.2.2.2.1, hz16.2.2.2.2.2.2.2.2.2.2.2.2.2.2.2.2.2.2.2.2.2.1, hz16.2.2.2.2.2.2.2.2.2.2.2.2.2.2.2.2.2.2.2.2.2.2⟩
                  refine g_astore C (pc := 50) [(7, .ref (h 25)), (0, .ref (h 0)), (1, .int p0), (2, .int p1), (3, .int v1), (4, .int v2), (5, .int v11), (6, .int v12)] dX4_sortBits_50 (by decide) rfl ?_
                  refine g_aload C (pc := 52) dX4_sortBits_52 0 rfl ?_
                  refine g_sipush C (pc := 54) dX4_sortBits_54 cS_1000 ?_
                  refine g_Vei C (pc := 57) (As := [.int 1000]) (kX0_nodsIn l D cA T (sh 25 h) (sh 25 M18) 1000 ⟨hz18.2.2.2.2.2.2.2.2.2.2.1, hz18.2.2.2.2.2.2.2.2.2.2.2.1, hz18.2.2.2.2.2.2.2.2.2.2.2.2.1, hz18.2.2.2.2.2.2.2.2.2.2.2.2.2.1, hz18.2.2.2.2.2.2.2.2.2.2.2.2.2.2.1⟩) (v_main_bird_25 cA h M18) gX4_sortBits_X0_nodsIn rfl ⟨rfl, rfl⟩ ⟨Nat.le_of_ble_eq_true rfl, Nat.le_of_ble_eq_true rfl⟩ ⟨Nat.zero_le _, Nat.zero_le _⟩ rfl (Nat.le_of_ble_eq_true rfl) hdV_X0_nodsIn 0 rfl rfl rfl dX4_sortBits_57 (fun z19 ez19 hz_z19 => ?_)
                  refine g_nmW (mainW cA h) (fun M20 eM20 => ?_)
                  have hz20 : (Zmain M20) := by rw [eM20]; exact ⟨hz18.1, hz18.2.1, hz18.2.2.1, hz18.2.2.2.1, hz18.2.2.2.2.1, hz18.2.2.2.2.2.1, hz18.2.2.2.2.2.2.1, hz18.2.2.2.2.2.2.2.1, hz18.2.2.2.2.2.2.2.2.1, hz18.2.2.2.2.2.2.2.2.2.1, hz_z19.1, hz_z19.2.1, hz_z19.2.2.1, hz_z19.2.2.2.1, hz_z19.2.2.2.2, hz18.2.2.2.2.2.2.2.2.2.2.2.2.2.2.2.1, hz18.2.2.2.2.2.2.2.2.2.2.2.2.2.2.2.2.1, hz18.2.2.2.2.2.2.2.2.2.2.2.2.2.2.2.2.2.1, hz18.2.2.2.2.2.2.2.2.2.2.2.2.2.2.2.2.2.2.1, hz18.2.2.2.2.2.2.2.2.2.2.2.2.2.2.2.2.2.2.2.1, hz18.2.2.2.2.2.2.2.2.2.2.2.2.2.2.2.2.2.2.2.2.1, hz18.2.2.2.2.2.2.2.2.2.2.2.2.2.2.2.2.2.2.2.2.2.1, hz18.2.2.2.2.2.2.2.2.2.2.2.2.2.2.2.2.2.2.2.2.2.2⟩
                  refine g_iload_n C (pc := 60) dX4_sortBits_60 3 rfl ?_
                  refine g_iload C (pc := 61) dX4_sortBits_61 7 rfl ?_
                  refine g_idiv C (pc := 63) dX4_sortBits_63 (nz_ge1 c14) ?_
                  refine g_bipush C (pc := 64) dX4_sortBits_64 cB_100 ?_
                  refine g_irem C (pc := 66) dX4_sortBits_66 nz_100 ?_
                  refine g_join (α := Int32) (fun v22 => [(0, .ref (h 0)), (1, .int p0), (2, .int p1), (3, .int v1), (4, .int v2), (6, .int v12)]) (fun v22 => [.int v22]) 75 (fun v22 ev22 => ?_) (fun Jv22 => ?_)
                  · refine g_istore C (pc := 75) [(5, .int v22), (0, .ref (h 0)), (1, .int p0), (2, .int p1), (3, .int v1), (4, .int v2), (6, .int v12)] dX4_sortBits_75 (by decide) rfl ?_
                    refine g_iload C (pc := 77) dX4_sortBits_77 6 rfl ?_
                    refine g_bipush C (pc := 79) dX4_sortBits_79 cB_100 ?_
                    refine g_idiv C (pc := 81) dX4_sortBits_81 nz_100 ?_
                    refine g_nmi (fun x23 ex23 => ?_)
                    refine g_istore C (pc := 82) [(6, .int x23), (5, .int v22), (0, .ref (h 0)), (1, .int p0), (2, .int p1), (3, .int v1), (4, .int v2)] dX4_sortBits_82 (by decide) rfl ?_
                    refine g_goto C (pc := 84) 20 dX4_sortBits_84 (by decide) ?_
                    refine g_sub [2, 3, 4, 5, 6, 1, 0] rfl ?_
                    exact ih M20 v22 x23 hz20 (by rw [ex23]; exact unit_dec c14 hmu)
                  · refine g_icmp_ne0 C (pc := 67) 74 dX4_sortBits_67 (by decide) (fun c21 => ?_) (fun c21 => ?_)
                    · refine g_iconst C (pc := 74) dX4_sortBits_74 cI_0 ?_
                      refine g_sub [1, 2, 3, 4, 5, 7] rfl ?_
                      exact g_lf (if_neg c21) (Jv22 _ (Eq.symm (if_neg c21)))
                    · refine g_iconst C (pc := 70) dX4_sortBits_70 cI_1 ?_
                      refine g_goto C (pc := 71) 75 dX4_sortBits_71 (by decide) ?_
                      refine g_sub [1, 2, 3, 4, 5, 7] rfl ?_
                      exact g_lf (if_pos c21) (Jv22 _ (Eq.symm (if_pos c21)))
          refine g_sub [2, 3, 4, 5, 6, 1, 0] rfl ?_
          exact L20 _ M3 1 10000 hz3 (Nat.lt_succ_self _)
  refine g_sub [2, 3, 4, 1, 0] rfl ?_
  exact L5 _ M 0 1 hz (Nat.lt_succ_self _)

noncomputable def xX4_sorts (M : St) (p0 : Int32) (p1 : Int32) : Int32 × St := nm (if p0 < 0 then (1) else (if 0 ≤ p1 then (0) else (1)) : Int32) fun v3 => nm (if 999999 < p0 then (1) else (if p1 ≤ 999999 then (0) else (1)) : Int32) fun v6 => nm (xX4_outside M v3 v6) fun z7 => nm (z7.2) fun M8 => nm (z7.1 : Int32) fun x9 => if x9 = 0 then (nm (xX4_sortBits M8 p0 p1) fun z11 => nm (z11.2) fun M12 => (z11.1, M12)) else ((x9, M8))
set_option maxHeartbeats 4000000 in
set_option maxRecDepth 100000 in
theorem kX4_sorts (l : Launch) (D : va_G) (cA : ClassId) (T : Nat × Nat × Nat) (h : Nat → Nat) (M : St) (p0 : Int32) (p1 : Int32) (hz : (Zmain M)) : ∀ sz : Nat, Met l yX4_sorts wsX4_sorts { frames := 6, cells := 0, slots := 0, locals := 158 } (va_Pc [.ref (h 0), .int p0, .int p1] (PreW D cA T (mainW cA h M) sz)) (va_Qi (fun r u => (r, u) = (xX4_sorts M p0 p1) ∧ (Zmain) u) (fun u => PostW D cA (va_A (mainW cA h M) sz) (mainW cA h u)) (va_A (mainW cA h M) sz)) 0 0 (va_A (mainW cA h M) sz) := by
  refine m_ei (Wf := mainW cA h) (inv := (Zmain)) (cc := cX4_sorts) (maxL := 4) (own := RX4) (by decide) rfl rfl (Nat.le_of_ble_eq_true rfl) (fun {p e s m args below meth c} A C X => ?_)
  show G p l e { frames := 6, cells := 0, slots := 0, locals := 158 } s m args below meth c 0 0 D A (Qei below D cA A args s 0 0 (mainW cA h) (Zmain) X) 4 X (xX4_sorts M p0 p1) (mainW cA h M) 0 [(0, .ref (h 0)), (1, .int p0), (2, .int p1)] []
  unfold xX4_sorts
  refine g_aload_n C (pc := 0) dX4_sorts_0 0 rfl ?_
  refine g_iload_n C (pc := 1) dX4_sorts_1 1 rfl ?_
  refine g_join (α := Int32) (fun v3 => [(0, .ref (h 0)), (1, .int p0), (2, .int p1)]) (fun v3 => [.int v3, .ref (h 0)]) 14 (fun v3 ev3 => ?_) (fun Jv3 => ?_)
  · refine g_iload_n C (pc := 14) dX4_sorts_14 1 rfl ?_
    refine g_ldc C (pc := 15) (v := 999999) dX4_sorts_15 (List.mem_of_getElem? (i := 1) rfl) ?_
    refine g_join (α := Int32) (fun v6 => [(0, .ref (h 0)), (1, .int p0), (2, .int p1)]) (fun v6 => [.int v6, .int v3, .ref (h 0)]) 31 (fun v6 ev6 => ?_) (fun Jv6 => ?_)
    · refine g_Vei C (pc := 31) (As := [.int v3, .int v6]) (kX4_outside l D cA T h M v3 v6 hz) (v_id (mainW cA h) M 56 (fun _ => rfl) rfl) gX4_sorts_X4_outside rfl ⟨rfl, rfl⟩ ⟨Nat.le_of_ble_eq_true rfl, Nat.le_of_ble_eq_true rfl⟩ ⟨Nat.zero_le _, Nat.zero_le _⟩ rfl (Nat.le_of_ble_eq_true rfl) hdV_X4_outside 0 rfl rfl rfl dX4_sorts_31 (fun z7 ez7 hz_z7 => ?_)
      refine g_nmW (mainW cA h) (fun M8 eM8 => ?_)
      have hz8 : (Zmain M8) := by rw [eM8]; exact hz_z7
      refine g_nmi (fun x9 ex9 => ?_)
      refine g_istore_n C (pc := 34) [(3, .int x9), (0, .ref (h 0)), (1, .int p0), (2, .int p1)] dX4_sorts_34 (by decide) rfl ?_
      refine g_iload_n C (pc := 35) dX4_sorts_35 0 rfl ?_
      refine g_if_eq C (pc := 36) 41 dX4_sorts_36 (by decide) (fun c10 => ?_) (fun c10 => ?_)
      · refine g_aload_n C (pc := 41) dX4_sorts_41 1 rfl ?_
        refine g_iload_n C (pc := 42) dX4_sorts_42 2 rfl ?_
        refine g_iload_n C (pc := 43) dX4_sorts_43 3 rfl ?_
        refine g_Vei C (pc := 44) (As := [.int p0, .int p1]) (kX4_sortBits l D cA T h M8 p0 p1 hz8) (v_id (mainW cA h) M8 56 (fun _ => rfl) rfl) gX4_sorts_X4_sortBits rfl ⟨rfl, rfl⟩ ⟨Nat.le_of_ble_eq_true rfl, Nat.le_of_ble_eq_true rfl⟩ ⟨Nat.zero_le _, Nat.zero_le _⟩ rfl (Nat.le_of_ble_eq_true rfl) hdV_X4_sortBits 0 rfl rfl rfl dX4_sorts_44 (fun z11 ez11 hz_z11 => ?_)
        refine g_nmW (mainW cA h) (fun M12 eM12 => ?_)
        have hz12 : (Zmain M12) := by rw [eM12]; exact hz_z11
        exact r_ei C rfl dX4_sorts_47 hz12
      · refine g_iload_n C (pc := 39) dX4_sorts_39 0 rfl ?_
        exact r_ei C rfl dX4_sorts_40 hz8
    · refine g_icmp_gt0 C (pc := 17) 26 dX4_sorts_17 (by decide) (fun c4 => ?_) (fun c4 => ?_)
      · refine g_iconst C (pc := 26) dX4_sorts_26 cI_1 ?_
        refine g_goto C (pc := 27) 31 dX4_sorts_27 (by decide) ?_
        refine g_sub [0, 1, 2] rfl ?_
        exact g_lf (if_pos c4) (Jv6 _ (Eq.symm (if_pos c4)))
      · refine g_iload_n C (pc := 20) dX4_sorts_20 2 rfl ?_
        refine g_ldc C (pc := 21) (v := 999999) dX4_sorts_21 (List.mem_of_getElem? (i := 1) rfl) ?_
        refine g_icmp_le0 C (pc := 23) 30 dX4_sorts_23 (by decide) (fun c5 => ?_) (fun c5 => ?_)
        · refine g_iconst C (pc := 30) dX4_sorts_30 cI_0 ?_
          refine g_sub [0, 1, 2] rfl ?_
          exact g_lf ((if_neg c4).trans (if_pos c5)) (Jv6 _ (Eq.symm ((if_neg c4).trans (if_pos c5))))
        · refine g_iconst C (pc := 26) dX4_sorts_26 cI_1 ?_
          refine g_goto C (pc := 27) 31 dX4_sorts_27 (by decide) ?_
          refine g_sub [0, 1, 2] rfl ?_
          exact g_lf ((if_neg c4).trans (if_neg c5)) (Jv6 _ (Eq.symm ((if_neg c4).trans (if_neg c5))))
  · refine g_if_lt0 C (pc := 2) 9 dX4_sorts_2 (by decide) (fun c1 => ?_) (fun c1 => ?_)
    · refine g_iconst C (pc := 9) dX4_sorts_9 cI_1 ?_
      refine g_goto C (pc := 10) 14 dX4_sorts_10 (by decide) ?_
      refine g_sub [0, 1, 2] rfl ?_
      exact g_lf (if_pos c1) (Jv3 _ (Eq.symm (if_pos c1)))
    · refine g_iload_n C (pc := 5) dX4_sorts_5 2 rfl ?_
      refine g_if_ge0 C (pc := 6) 13 dX4_sorts_6 (by decide) (fun c2 => ?_) (fun c2 => ?_)
      · refine g_iconst C (pc := 13) dX4_sorts_13 cI_0 ?_
        refine g_sub [0, 1, 2] rfl ?_
        exact g_lf ((if_neg c1).trans (if_pos c2)) (Jv3 _ (Eq.symm ((if_neg c1).trans (if_pos c2))))
      · refine g_iconst C (pc := 9) dX4_sorts_9 cI_1 ?_
        refine g_goto C (pc := 10) 14 dX4_sorts_10 (by decide) ?_
        refine g_sub [0, 1, 2] rfl ?_
        exact g_lf ((if_neg c1).trans (if_neg c2)) (Jv3 _ (Eq.symm ((if_neg c1).trans (if_neg c2))))

noncomputable def xX4_odds_j11 (M1 : St) : Int32 × St := nm (xX4_refuse M1 (-1)) fun z2 => nm (z2.2) fun M3 => (z2.1, M3)
noncomputable def xX4_odds_j28 (M6 : St) : Int32 × St := nm (xX4_refuse M6 (-2)) fun z7 => nm (z7.2) fun M8 => (z7.1, M8)
noncomputable def xX4_odds (M : St) (p0 : Int32) (p1 : Int32) (p2 : Int32) (p3 : Int32) : Int32 × St := if p0 < 1 then (xX4_odds_j11 M ) else (if p0 ≤ 9 then (if p3 < 0 then (xX4_odds_j28 M ) else (if p3 ≤ 1 then (nm (if p1 < 0 then (1) else (if 0 ≤ p2 then (0) else (1)) : Int32) fun v13 => nm (if 999999 < p1 then (1) else (if p2 ≤ 999999 then (0) else (1)) : Int32) fun v16 => nm (xX4_outside M v13 v16) fun z17 => nm (z17.2) fun M18 => nm (z17.1 : Int32) fun x19 => if x19 = 0 then (nm (xX4_sortBits M18 p1 p2) fun z21 => nm (z21.2) fun M22 => nm (z21.1 : Int32) fun x23 => nm (if ((x23 >>> (p0 &&& 31)) &&& 1) = 1 then (1) else (0) : Int32) fun v25 => if p3 = 0 then (if v25 = 0 then ((0, M22)) else ((1, M22))) else (if v25 = 0 then ((1, M22)) else (((xJ6_bitCount_0f7a4 x23), M22)))) else ((x19, M18))) else (xX4_odds_j28 M ))) else (xX4_odds_j11 M ))
set_option maxHeartbeats 4000000 in
set_option maxRecDepth 100000 in
theorem kX4_odds (l : Launch) (D : va_G) (cA : ClassId) (T : Nat × Nat × Nat) (h : Nat → Nat) (M : St) (p0 : Int32) (p1 : Int32) (p2 : Int32) (p3 : Int32) (hz : (Zmain M)) : ∀ sz : Nat, Met l yX4_odds wsX4_odds { frames := 6, cells := 0, slots := 0, locals := 158 } (va_Pc [.ref (h 0), .int p0, .int p1, .int p2, .int p3] (PreW D cA T (mainW cA h M) sz)) (va_Qi (fun r u => (r, u) = (xX4_odds M p0 p1 p2 p3) ∧ (Zmain) u) (fun u => PostW D cA (va_A (mainW cA h M) sz) (mainW cA h u)) (va_A (mainW cA h M) sz)) 0 0 (va_A (mainW cA h M) sz) := by
  refine m_ei (Wf := mainW cA h) (inv := (Zmain)) (cc := cX4_odds) (maxL := 8) (own := RX4) (by decide) rfl rfl (Nat.le_of_ble_eq_true rfl) (fun {p e s m args below meth c} A C X => ?_)
  show G p l e { frames := 6, cells := 0, slots := 0, locals := 158 } s m args below meth c 0 0 D A (Qei below D cA A args s 0 0 (mainW cA h) (Zmain) X) 8 X (xX4_odds M p0 p1 p2 p3) (mainW cA h M) 0 [(0, .ref (h 0)), (1, .int p0), (2, .int p1), (3, .int p2), (4, .int p3)] []
  unfold xX4_odds
  refine g_iload_n C (pc := 0) dX4_odds_0 1 rfl ?_
  refine g_iconst C (pc := 1) dX4_odds_1 cI_1 ?_
  have J11 : ∀ (M1 : St), (Zmain M1) → G p l e { frames := 6, cells := 0, slots := 0, locals := 158 } s m args below meth c 0 0 D A (Qei below D cA A args s 0 0 (mainW cA h) (Zmain) X) 8 X (xX4_odds_j11 M1 ) (mainW cA h M1) 11 [(0, .ref (h 0))] [] := by
    intro M1 hz1
    unfold xX4_odds_j11
    refine g_aload_n C (pc := 11) dX4_odds_11 0 rfl ?_
    refine g_iconst C (pc := 12) dX4_odds_12 cI_m1 ?_
    refine g_Vei C (pc := 13) (As := [.int (-1)]) (kX4_refuse l D cA T h M1 (-1) hz1) (v_id (mainW cA h) M1 56 (fun _ => rfl) rfl) gX4_odds_X4_refuse rfl ⟨rfl, rfl⟩ ⟨Nat.le_of_ble_eq_true rfl, Nat.le_of_ble_eq_true rfl⟩ ⟨Nat.zero_le _, Nat.zero_le _⟩ rfl (Nat.le_of_ble_eq_true rfl) hdV_X4_refuse 0 rfl rfl rfl dX4_odds_13 (fun z2 ez2 hz_z2 => ?_)
    refine g_nmW (mainW cA h) (fun M3 eM3 => ?_)
    have hz3 : (Zmain M3) := by rw [eM3]; exact hz_z2
    exact r_ei C rfl dX4_odds_16 hz3
  refine g_icmp_lt C (pc := 2) 11 dX4_odds_2 (by decide) (fun c4 => ?_) (fun c4 => ?_)
  · refine g_sub [0] rfl ?_
    exact J11 M hz
  · refine g_iload_n C (pc := 5) dX4_odds_5 1 rfl ?_
    refine g_bipush C (pc := 6) dX4_odds_6 cB_9 ?_
    refine g_icmp_le C (pc := 8) 17 dX4_odds_8 (by decide) (fun c5 => ?_) (fun c5 => ?_)
    · refine g_iload C (pc := 17) dX4_odds_17 4 rfl ?_
      have J28 : ∀ (M6 : St), (Zmain M6) → G p l e { frames := 6, cells := 0, slots := 0, locals := 158 } s m args below meth c 0 0 D A (Qei below D cA A args s 0 0 (mainW cA h) (Zmain) X) 8 X (xX4_odds_j28 M6 ) (mainW cA h M6) 28 [(0, .ref (h 0))] [] := by
        intro M6 hz6
        unfold xX4_odds_j28
        refine g_aload_n C (pc := 28) dX4_odds_28 0 rfl ?_
        refine g_bipush C (pc := 29) dX4_odds_29 cB_m2 ?_
        refine g_Vei C (pc := 31) (As := [.int (-2)]) (kX4_refuse l D cA T h M6 (-2) hz6) (v_id (mainW cA h) M6 56 (fun _ => rfl) rfl) gX4_odds_X4_refuse rfl ⟨rfl, rfl⟩ ⟨Nat.le_of_ble_eq_true rfl, Nat.le_of_ble_eq_true rfl⟩ ⟨Nat.zero_le _, Nat.zero_le _⟩ rfl (Nat.le_of_ble_eq_true rfl) hdV_X4_refuse 0 rfl rfl rfl dX4_odds_31 (fun z7 ez7 hz_z7 => ?_)
        refine g_nmW (mainW cA h) (fun M8 eM8 => ?_)
        have hz8 : (Zmain M8) := by rw [eM8]; exact hz_z7
        exact r_ei C rfl dX4_odds_34 hz8
      refine g_if_lt C (pc := 19) 28 dX4_odds_19 (by decide) (fun c9 => ?_) (fun c9 => ?_)
      · refine g_sub [0] rfl ?_
        exact J28 M hz
      · refine g_iload C (pc := 22) dX4_odds_22 4 rfl ?_
        refine g_iconst C (pc := 24) dX4_odds_24 cI_1 ?_
        refine g_icmp_le C (pc := 25) 35 dX4_odds_25 (by decide) (fun c10 => ?_) (fun c10 => ?_)
        · refine g_aload_n C (pc := 35) dX4_odds_35 0 rfl ?_
          refine g_iload_n C (pc := 36) dX4_odds_36 2 rfl ?_
          refine g_join (α := Int32) (fun v13 => [(0, .ref (h 0)), (1, .int p0), (2, .int p1), (3, .int p2), (4, .int p3)]) (fun v13 => [.int v13, .ref (h 0)]) 49 (fun v13 ev13 => ?_) (fun Jv13 => ?_)
          · refine g_iload_n C (pc := 49) dX4_odds_49 2 rfl ?_
            refine g_ldc C (pc := 50) (v := 999999) dX4_odds_50 (List.mem_of_getElem? (i := 1) rfl) ?_
            refine g_join (α := Int32) (fun v16 => [(0, .ref (h 0)), (1, .int p0), (2, .int p1), (3, .int p2), (4, .int p3)]) (fun v16 => [.int v16, .int v13, .ref (h 0)]) 66 (fun v16 ev16 => ?_) (fun Jv16 => ?_)
            · refine g_Vei C (pc := 66) (As := [.int v13, .int v16]) (kX4_outside l D cA T h M v13 v16 hz) (v_id (mainW cA h) M 56 (fun _ => rfl) rfl) gX4_odds_X4_outside rfl ⟨rfl, rfl⟩ ⟨Nat.le_of_ble_eq_true rfl, Nat.le_of_ble_eq_true rfl⟩ ⟨Nat.zero_le _, Nat.zero_le _⟩ rfl (Nat.le_of_ble_eq_true rfl) hdV_X4_outside 0 rfl rfl rfl dX4_odds_66 (fun z17 ez17 hz_z17 => ?_)
              refine g_nmW (mainW cA h) (fun M18 eM18 => ?_)
              have hz18 : (Zmain M18) := by rw [eM18]; exact hz_z17
              refine g_nmi (fun x19 ex19 => ?_)
              refine g_istore C (pc := 69) [(5, .int x19), (0, .ref (h 0)), (1, .int p0), (2, .int p1), (3, .int p2), (4, .int p3)] dX4_odds_69 (by decide) rfl ?_
              refine g_iload C (pc := 71) dX4_odds_71 0 rfl ?_
              refine g_if_eq C (pc := 73) 79 dX4_odds_73 (by decide) (fun c20 => ?_) (fun c20 => ?_)
              · refine g_aload_n C (pc := 79) dX4_odds_79 1 rfl ?_
                refine g_iload_n C (pc := 80) dX4_odds_80 3 rfl ?_
                refine g_iload_n C (pc := 81) dX4_odds_81 4 rfl ?_
                refine g_Vei C (pc := 82) (As := [.int p1, .int p2]) (kX4_sortBits l D cA T h M18 p1 p2 hz18) (v_id (mainW cA h) M18 56 (fun _ => rfl) rfl) gX4_odds_X4_sortBits rfl ⟨rfl, rfl⟩ ⟨Nat.le_of_ble_eq_true rfl, Nat.le_of_ble_eq_true rfl⟩ ⟨Nat.zero_le _, Nat.zero_le _⟩ rfl (Nat.le_of_ble_eq_true rfl) hdV_X4_sortBits 0 rfl rfl rfl dX4_odds_82 (fun z21 ez21 hz_z21 => ?_)
                refine g_nmW (mainW cA h) (fun M22 eM22 => ?_)
                have hz22 : (Zmain M22) := by rw [eM22]; exact hz_z21
                refine g_nmi (fun x23 ex23 => ?_)
                refine g_istore C (pc := 85) [(6, .int x23), (5, .int x19), (0, .ref (h 0)), (1, .int p0), (2, .int p1), (3, .int p2), (4, .int p3)] dX4_odds_85 (by decide) rfl ?_
                refine g_iload C (pc := 87) dX4_odds_87 0 rfl ?_
                refine g_iload_n C (pc := 89) dX4_odds_89 3 rfl ?_
                refine g_ishr C (pc := 90) dX4_odds_90 ?_
                refine g_iconst C (pc := 91) dX4_odds_91 cI_1 ?_
                refine g_iand C (pc := 92) dX4_odds_92 ?_
                refine g_iconst C (pc := 93) dX4_odds_93 cI_1 ?_
                refine g_join (α := Int32) (fun v25 => [(4, .int p3), (6, .int x23)]) (fun v25 => [.int v25]) 102 (fun v25 ev25 => ?_) (fun Jv25 => ?_)
                · refine g_istore C (pc := 102) [(7, .int v25), (4, .int p3), (6, .int x23)] dX4_odds_102 (by decide) rfl ?_
                  refine g_iload C (pc := 104) dX4_odds_104 1 rfl ?_
                  refine g_if_ne C (pc := 106) 120 dX4_odds_106 (by decide) (fun c26 => ?_) (fun c26 => ?_)
                  · refine g_iload C (pc := 120) dX4_odds_120 0 rfl ?_
                    refine g_if_eq C (pc := 122) 133 dX4_odds_122 (by decide) (fun c27 => ?_) (fun c27 => ?_)
                    · refine g_iconst C (pc := 133) dX4_odds_133 cI_1 ?_
                      exact r_ei C rfl dX4_odds_134 hz22
                    · refine g_iload C (pc := 125) dX4_odds_125 2 rfl ?_
                      refine g_Spi C (pc := 127) (As := [.int x23]) (kJ6_bitCount_0f7a4 l D cA T x23) (v_none (mainW cA h M22) 56 rfl rfl) gX4_odds_J6_bitCount_0f7a4 rfl ⟨rfl, rfl⟩ ⟨Nat.le_of_ble_eq_true rfl, Nat.le_of_ble_eq_true rfl⟩ ⟨Nat.zero_le _, Nat.zero_le _⟩ rfl (Nat.le_of_ble_eq_true rfl) hdS_J6_bitCount_0f7a4 rfl dX4_odds_127 ?_
                      refine g_goto C (pc := 130) 134 dX4_odds_130 (by decide) ?_
                      exact r_ei C rfl dX4_odds_134 hz22
                  · refine g_iload C (pc := 109) dX4_odds_109 0 rfl ?_
                    refine g_if_eq C (pc := 111) 118 dX4_odds_111 (by decide) (fun c28 => ?_) (fun c28 => ?_)
                    · refine g_iconst C (pc := 118) dX4_odds_118 cI_0 ?_
                      exact r_ei C rfl dX4_odds_119 hz22
                    · refine g_iconst C (pc := 114) dX4_odds_114 cI_1 ?_
                      refine g_goto C (pc := 115) 119 dX4_odds_115 (by decide) ?_
                      exact r_ei C rfl dX4_odds_119 hz22
                · refine g_icmp_ne0 C (pc := 94) 101 dX4_odds_94 (by decide) (fun c24 => ?_) (fun c24 => ?_)
                  · refine g_iconst C (pc := 101) dX4_odds_101 cI_0 ?_
                    refine g_sub [6, 0] rfl ?_
                    exact g_lf (if_neg c24) (Jv25 _ (Eq.symm (if_neg c24)))
                  · refine g_iconst C (pc := 97) dX4_odds_97 cI_1 ?_
                    refine g_goto C (pc := 98) 102 dX4_odds_98 (by decide) ?_
                    refine g_sub [6, 0] rfl ?_
                    exact g_lf (if_pos c24) (Jv25 _ (Eq.symm (if_pos c24)))
              · refine g_iload C (pc := 76) dX4_odds_76 0 rfl ?_
                exact r_ei C rfl dX4_odds_78 hz18
            · refine g_icmp_gt0 C (pc := 52) 61 dX4_odds_52 (by decide) (fun c14 => ?_) (fun c14 => ?_)
              · refine g_iconst C (pc := 61) dX4_odds_61 cI_1 ?_
                refine g_goto C (pc := 62) 66 dX4_odds_62 (by decide) ?_
                refine g_sub [0, 1, 2, 3, 4] rfl ?_
                exact g_lf (if_pos c14) (Jv16 _ (Eq.symm (if_pos c14)))
              · refine g_iload_n C (pc := 55) dX4_odds_55 3 rfl ?_
                refine g_ldc C (pc := 56) (v := 999999) dX4_odds_56 (List.mem_of_getElem? (i := 1) rfl) ?_
                refine g_icmp_le0 C (pc := 58) 65 dX4_odds_58 (by decide) (fun c15 => ?_) (fun c15 => ?_)
                · refine g_iconst C (pc := 65) dX4_odds_65 cI_0 ?_
                  refine g_sub [0, 1, 2, 3, 4] rfl ?_
                  exact g_lf ((if_neg c14).trans (if_pos c15)) (Jv16 _ (Eq.symm ((if_neg c14).trans (if_pos c15))))
                · refine g_iconst C (pc := 61) dX4_odds_61 cI_1 ?_
                  refine g_goto C (pc := 62) 66 dX4_odds_62 (by decide) ?_
                  refine g_sub [0, 1, 2, 3, 4] rfl ?_
                  exact g_lf ((if_neg c14).trans (if_neg c15)) (Jv16 _ (Eq.symm ((if_neg c14).trans (if_neg c15))))
          · refine g_if_lt0 C (pc := 37) 44 dX4_odds_37 (by decide) (fun c11 => ?_) (fun c11 => ?_)
            · refine g_iconst C (pc := 44) dX4_odds_44 cI_1 ?_
              refine g_goto C (pc := 45) 49 dX4_odds_45 (by decide) ?_
              refine g_sub [0, 1, 2, 3, 4] rfl ?_
              exact g_lf (if_pos c11) (Jv13 _ (Eq.symm (if_pos c11)))
            · refine g_iload_n C (pc := 40) dX4_odds_40 3 rfl ?_
              refine g_if_ge0 C (pc := 41) 48 dX4_odds_41 (by decide) (fun c12 => ?_) (fun c12 => ?_)
              · refine g_iconst C (pc := 48) dX4_odds_48 cI_0 ?_
                refine g_sub [0, 1, 2, 3, 4] rfl ?_
                exact g_lf ((if_neg c11).trans (if_pos c12)) (Jv13 _ (Eq.symm ((if_neg c11).trans (if_pos c12))))
              · refine g_iconst C (pc := 44) dX4_odds_44 cI_1 ?_
                refine g_goto C (pc := 45) 49 dX4_odds_45 (by decide) ?_
                refine g_sub [0, 1, 2, 3, 4] rfl ?_
                exact g_lf ((if_neg c11).trans (if_neg c12)) (Jv13 _ (Eq.symm ((if_neg c11).trans (if_neg c12))))
        · refine g_sub [0] rfl ?_
          exact J28 M hz
    · refine g_sub [0] rfl ?_
      exact J11 M hz
theorem inX4_drafts_0 : ∀ w ∈ u_ws RX0 TX0 18, w ∈ wsX4_drafts := by decide +kernel
theorem inX4_drafts_4 : ∀ w ∈ u_ws RX4 TX4 8, w ∈ wsX4_drafts := by decide +kernel
noncomputable def xX4_drafts_l53 : Nat → St → Int32 → Int32 → Int32 → Int32 → Int32 × St
  | 0, M14, _, _, _, _ => (0, M14)
  | k + 1, M14, p0, v11, v12, v13 => if p0 ≤ v13 then ((v12, M14)) else (nm (if (M14 25 10 - M14 25 10 / 10 * 10) = 0 then (nm (((v11 * 1664525) + 1013904223) : Int32) fun x23 => nm (sa M14 25 (up (M14 25) 16 (((x23 &&& 2147483647) / 256) - ((x23 &&& 2147483647) / 256) / 10 * 10))) fun M24 => (M24, x23)) else ((M14, v11)) : St × Int32) fun w16 => nm (w16.1) fun M17 => nm (xX0_nodsIn (sh 25 M17) 1) fun z18 => nm (put 25 12 z18.2 M17) fun M19 => nm ((v12 + z18.1) : Int32) fun x20 => nm (v13 + 1 : Int32) fun x21 => xX4_drafts_l53 k M19 p0 (w16.2) x20 x21)
noncomputable def xX4_drafts (M : St) (p0 : Int32) (p1 : Int32) : Int32 × St := nm (if 1 ≤ p0 then (0) else (1) : Int32) fun v2 => nm (if p0 ≤ 3000 then (0) else (1) : Int32) fun v4 => nm (xX4_outside M v2 v4) fun z5 => nm (z5.2) fun M6 => nm (z5.1 : Int32) fun x7 => if x7 = 0 then (nm (xX0_become (sh2 25 12 1 M6)) fun z9 => nm (put2 25 12 1 12 z9 M6) fun M10 => xX4_drafts_l53 (mu 0 p0 + 1) M10 p0 p1 0 0) else ((x7, M6))
set_option maxHeartbeats 4000000 in
set_option maxRecDepth 100000 in
theorem kX4_drafts (l : Launch) (D : va_G) (cA : ClassId) (T : Nat × Nat × Nat) (h : Nat → Nat) (M : St) (p0 : Int32) (p1 : Int32) (hz : (Zmain M)) : ∀ sz : Nat, Met l yX4_drafts wsX4_drafts { frames := 5, cells := 0, slots := 0, locals := 128 } (va_Pc [.ref (h 0), .int p0, .int p1] (PreW D cA T (mainW cA h M) sz)) (va_Qi (fun r u => (r, u) = (xX4_drafts M p0 p1) ∧ (Zmain) u) (fun u => PostW D cA (va_A (mainW cA h M) sz) (mainW cA h u)) (va_A (mainW cA h M) sz)) 0 0 (va_A (mainW cA h M) sz) := by
  refine m_ei (Wf := mainW cA h) (inv := (Zmain)) (cc := cX4_drafts) (maxL := 7) (own := RX4) (by decide) rfl rfl (Nat.le_of_ble_eq_true rfl) (fun {p e s m args below meth c} A C X => ?_)
  show G p l e { frames := 5, cells := 0, slots := 0, locals := 128 } s m args below meth c 0 0 D A (Qei below D cA A args s 0 0 (mainW cA h) (Zmain) X) 7 X (xX4_drafts M p0 p1) (mainW cA h M) 0 [(0, .ref (h 0)), (1, .int p0), (2, .int p1)] []
  unfold xX4_drafts
  refine g_aload_n C (pc := 0) dX4_drafts_0 0 rfl ?_
  refine g_iload_n C (pc := 1) dX4_drafts_1 1 rfl ?_
  refine g_iconst C (pc := 2) dX4_drafts_2 cI_1 ?_
  refine g_join (α := Int32) (fun v2 => [(0, .ref (h 0)), (1, .int p0), (2, .int p1)]) (fun v2 => [.int v2, .ref (h 0)]) 11 (fun v2 ev2 => ?_) (fun Jv2 => ?_)
  · refine g_iload_n C (pc := 11) dX4_drafts_11 1 rfl ?_
    refine g_sipush C (pc := 12) dX4_drafts_12 cS_3000 ?_
    refine g_join (α := Int32) (fun v4 => [(0, .ref (h 0)), (1, .int p0), (2, .int p1)]) (fun v4 => [.int v4, .int v2, .ref (h 0)]) 23 (fun v4 ev4 => ?_) (fun Jv4 => ?_)
    · refine g_Vei C (pc := 23) (As := [.int v2, .int v4]) (kX4_outside l D cA T h M v2 v4 hz) (v_id (mainW cA h) M 56 (fun _ => rfl) rfl) gX4_drafts_X4_outside rfl ⟨rfl, rfl⟩ ⟨Nat.le_of_ble_eq_true rfl, Nat.le_of_ble_eq_true rfl⟩ ⟨Nat.zero_le _, Nat.zero_le _⟩ rfl (Nat.le_of_ble_eq_true rfl) hdV_X4_outside 0 rfl rfl rfl dX4_drafts_23 (fun z5 ez5 hz_z5 => ?_)
      refine g_nmW (mainW cA h) (fun M6 eM6 => ?_)
      have hz6 : (Zmain M6) := by rw [eM6]; exact hz_z5
      refine g_nmi (fun x7 ex7 => ?_)
      refine g_istore_n C (pc := 26) [(3, .int x7), (0, .ref (h 0)), (1, .int p0), (2, .int p1)] dX4_drafts_26 (by decide) rfl ?_
      refine g_iload_n C (pc := 27) dX4_drafts_27 0 rfl ?_
      refine g_if_eq C (pc := 28) 33 dX4_drafts_28 (by decide) (fun c8 => ?_) (fun c8 => ?_)
      · refine g_aload_n C (pc := 33) dX4_drafts_33 1 rfl ?_
        refine g_get C (pc := 34) inX4_drafts_4 rfl 2 (by decide) (List.mem_of_getElem? (i := 1) rfl) dX4_drafts_34 0 rfl (.ref (h 25)) rfl ?_
        refine g_aload_n C (pc := 37) dX4_drafts_37 1 rfl ?_
        refine g_get C (pc := 38) inX4_drafts_4 rfl 0 (by decide) (List.mem_of_getElem? (i := 2) rfl) dX4_drafts_38 0 rfl (.ref (h 1)) rfl ?_
        refine g_Vev C (pc := 41) (As := [.ref (h 1)]) (kX0_become l D cA T (sh2 25 12 1 h) (sh2 25 12 1 M6) ⟨hz6.2.2.2.2.2.2.2.2.2.2.1, hz6.2.2.2.2.2.2.2.2.2.2.2.1, hz6.2.2.2.2.2.2.2.2.2.2.2.2.1, hz6.2.2.2.2.2.2.2.2.2.2.2.2.2.1, hz6.2.2.2.2.2.2.2.2.2.2.2.2.2.2.1, hz6.1, hz6.2.1, hz6.2.2.1, hz6.2.2.2.1, hz6.2.2.2.2.1⟩) (v_main_bird2_25_1 cA h M6) gX4_drafts_X0_become rfl ⟨rfl, rfl⟩ ⟨Nat.le_of_ble_eq_true rfl, Nat.le_of_ble_eq_true rfl⟩ ⟨Nat.zero_le _, Nat.zero_le _⟩ rfl (Nat.le_of_ble_eq_true rfl) hdV_X0_become 0 rfl rfl rfl dX4_drafts_41 (fun z9 ez9 hz_z9 => ?_)
        refine g_nmW (mainW cA h) (fun M10 eM10 => ?_)
        have hz10 : (Zmain M10) := by rw [eM10]; exact ⟨hz_z9.2.2.2.2.2.1, hz_z9.2.2.2.2.2.2.1, hz_z9.2.2.2.2.2.2.2.1, hz_z9.2.2.2.2.2.2.2.2.1, hz_z9.2.2.2.2.2.2.2.2.2, hz6.2.2.2.2.2.1, hz6.2.2.2.2.2.2.1, hz6.2.2.2.2.2.2.2.1, hz6.2.2.2.2.2.2.2.2.1, hz6.2.2.2.2.2.2.2.2.2.1, hz_z9.1, hz_z9.2.1, hz_z9.2.2.1, hz_z9.2.2.2.1, hz_z9.2.2.2.2.1, hz6.2.2.2.2.2.2.2.2.2.2.2.2.2.2.2.1, hz6.2.2.2.2.2.2.2.2.2.2.2.2.2.2.2.2.1, hz6.2.2.2.2.2.2.2.2.2.2.2.2.2.2.2.2.2.1, hz6.2.2.2.2.2.2.2.2.2.2.2.2.2.2.2.2.2.2.1, hz6.2.2.2.2.2.2.2.2.2.2.2.2.2.2.2.2.2.2.2.1, hz6.2.2.2.2.2.2.2.2.2.2.2.2.2.2.2.2.2.2.2.2.1, hz6.2.2.2.2.2.2.2.2.2.2.2.2.2.2.2.2.2.2.2.2.2.1, hz6.2.2.2.2.2.2.2.2.2.2.2.2.2.2.2.2.2.2.2.2.2.2⟩
        refine g_iload_n C (pc := 44) dX4_drafts_44 3 rfl ?_
        refine g_istore C (pc := 45) [(4, .int p1), (3, .int x7), (0, .ref (h 0)), (1, .int p0), (2, .int p1)] dX4_drafts_45 (by decide) rfl ?_
        refine g_iconst C (pc := 47) dX4_drafts_47 cI_0 ?_
        refine g_istore C (pc := 48) [(5, .int 0), (4, .int p1), (3, .int x7), (0, .ref (h 0)), (1, .int p0), (2, .int p1)] dX4_drafts_48 (by decide) rfl ?_
        refine g_iconst C (pc := 50) dX4_drafts_50 cI_0 ?_
        refine g_istore C (pc := 51) [(6, .int 0), (5, .int 0), (4, .int p1), (3, .int x7), (0, .ref (h 0)), (1, .int p0), (2, .int p1)] dX4_drafts_51 (by decide) rfl ?_
        have L53 : ∀ (k : Nat) (M14 : St) (v11 : Int32) (v12 : Int32) (v13 : Int32), (Zmain M14) → mu v13 p0 < k → G p l e { frames := 5, cells := 0, slots := 0, locals := 128 } s m args below meth c 0 0 D A (Qei below D cA A args s 0 0 (mainW cA h) (Zmain) X) 7 X (xX4_drafts_l53 k M14 p0 v11 v12 v13) (mainW cA h M14) 53 [(0, .ref (h 0)), (1, .int p0), (4, .int v11), (5, .int v12), (6, .int v13)] [] := by
          intro k
          induction k with
          | zero => intro M14 v11 v12 v13 hz14 hmu; exact absurd hmu (Nat.not_lt_zero _)
          | succ k ih =>
            intro M14 v11 v12 v13 hz14 hmu
            rw [xX4_drafts_l53]
            refine g_iload C (pc := 53) dX4_drafts_53 4 rfl ?_
            refine g_iload_n C (pc := 55) dX4_drafts_55 1 rfl ?_
            refine g_icmp_ge C (pc := 56) 120 dX4_drafts_56 (by decide) (fun c15 => ?_) (fun c15 => ?_)
            · refine g_iload C (pc := 120) dX4_drafts_120 3 rfl ?_
              exact r_ei C rfl dX4_drafts_122 hz14
            · refine g_aload_n C (pc := 59) dX4_drafts_59 0 rfl ?_
              refine g_get C (pc := 60) inX4_drafts_4 rfl 2 (by decide) (List.mem_of_getElem? (i := 1) rfl) dX4_drafts_60 0 rfl (.ref (h 25)) rfl ?_
              refine g_get C (pc := 63) inX4_drafts_0 rfl 10 (by decide) (List.mem_of_getElem? (i := 3) rfl) dX4_drafts_63 25 rfl (.int (M14 25 10)) rfl ?_
              refine g_bipush C (pc := 66) dX4_drafts_66 cB_10 ?_
              refine g_irem C (pc := 68) dX4_drafts_68 nz_10 ?_
              refine g_inner (σ := St × Int32) (fun w16 : St × Int32 => (mainW cA h w16.1)) (fun w16 => [(0, .ref (h 0)), (1, .int p0), (4, .int (w16.2)), (5, .int v12), (6, .int v13)]) 101 (fun w16 : St × Int32 => (Zmain w16.1)) (fun w16 ew16 hw16 => ?_) (fun X16 Jw16 => ?_)
              · refine g_nmW (mainW cA h) (fun M17 eM17 => ?_)
                have hz17 : (Zmain M17) := by rw [eM17]; exact hw16
                refine g_iload C (pc := 101) dX4_drafts_101 3 rfl ?_
                refine g_aload_n C (pc := 103) dX4_drafts_103 0 rfl ?_
                refine g_get C (pc := 104) inX4_drafts_4 rfl 2 (by decide) (List.mem_of_getElem? (i := 1) rfl) dX4_drafts_104 0 rfl (.ref (h 25)) rfl ?_
                refine g_iconst C (pc := 107) dX4_drafts_107 cI_1 ?_
                refine g_Vei C (pc := 108) (As := [.int 1]) (kX0_nodsIn l D cA T (sh 25 h) (sh 25 M17) 1 ⟨hz17.2.2.2.2.2.2.2.2.2.2.1, hz17.2.2.2.2.2.2.2.2.2.2.2.1, hz17.2.2.2.2.2.2.2.2.2.2.2.2.1, hz17.2.2.2.2.2.2.2.2.2.2.2.2.2.1, hz17.2.2.2.2.2.2.2.2.2.2.2.2.2.2.1⟩) (v_main_bird_25 cA h M17) gX4_drafts_X0_nodsIn rfl ⟨rfl, rfl⟩ ⟨Nat.le_of_ble_eq_true rfl, Nat.le_of_ble_eq_true rfl⟩ ⟨Nat.zero_le _, Nat.zero_le _⟩ rfl (Nat.le_of_ble_eq_true rfl) hdV_X0_nodsIn 0 rfl rfl rfl dX4_drafts_108 (fun z18 ez18 hz_z18 => ?_)
                refine g_nmW (mainW cA h) (fun M19 eM19 => ?_)
                have hz19 : (Zmain M19) := by rw [eM19]; exact ⟨hz17.1, hz17.2.1, hz17.2.2.1, hz17.2.2.2.1, hz17.2.2.2.2.1, hz17.2.2.2.2.2.1, hz17.2.2.2.2.2.2.1, hz17.2.2.2.2.2.2.2.1, hz17.2.2.2.2.2.2.2.2.1, hz17.2.2.2.2.2.2.2.2.2.1, hz_z18.1, hz_z18.2.1, hz_z18.2.2.1, hz_z18.2.2.2.1, hz_z18.2.2.2.2, hz17.2.2.2.2.2.2.2.2.2.2.2.2.2.2.2.1, hz17.2.2.2.2.2.2.2.2.2.2.2.2.2.2.2.2.1, hz17.2.2.2.2.2.2.2.2.2.2.2.2.2.2.2.2.2.1, hz17.2.2.2.2.2.2.2.2.2.2.2.2.2.2.2.2.2.2.1, hz17.2.2.2.2.2.2.2.2.2.2.2.2.2.2.2.2.2.2.2.1, hz17.2.2.2.2.2.2.2.2.2.2.2.2.2.2.2.2.2.2.2.2.1, hz17.2.2.2.2.2.2.2.2.2.2.2.2.2.2.2.2.2.2.2.2.2.1, hz17.2.2.2.2.2.2.2.2.2.2.2.2.2.2.2.2.2.2.2.2.2.2⟩
                refine g_iadd C (pc := 111) dX4_drafts_111 ?_
                refine g_nmi (fun x20 ex20 => ?_)
                refine g_istore C (pc := 112) [(5, .int x20), (0, .ref (h 0)), (1, .int p0), (4, .int (w16.2)), (6, .int v13)] dX4_drafts_112 (by decide) rfl ?_
                refine g_iincN C (pc := 114) 1 (fun y => [(6, .int y), (5, .int x20), (0, .ref (h 0)), (1, .int p0), (4, .int (w16.2))]) dX4_drafts_114 4 rfl cI_1 (by decide) (fun _ => rfl) (fun x21 ex21 => ?_)
                refine g_goto C (pc := 117) 53 dX4_drafts_117 (by decide) ?_
                refine g_sub [2, 3, 4, 1, 0] rfl ?_
                exact ih M19 (w16.2) x20 x21 hz19 (by rw [ex21]; exact lp_dec c15 hmu)
              · refine g_if_ne C (pc := 69) 101 dX4_drafts_69 (by decide) (fun c22 => ?_) (fun c22 => ?_)
                · refine g_sub [0, 1, 2, 3, 4] rfl ?_
                  exact Jw16 (M14, v11) hz14
                · refine g_iload C (pc := 72) dX4_drafts_72 2 rfl ?_
                  refine g_ldc C (pc := 74) (v := 1664525) dX4_drafts_74 (List.mem_of_getElem? (i := 4) rfl) ?_
                  refine g_imul C (pc := 76) dX4_drafts_76 ?_
                  refine g_ldc C (pc := 77) (v := 1013904223) dX4_drafts_77 (List.mem_of_getElem? (i := 5) rfl) ?_
                  refine g_iadd C (pc := 79) dX4_drafts_79 ?_
                  refine g_nmi (fun x23 ex23 => ?_)
                  refine g_istore C (pc := 80) [(4, .int x23), (0, .ref (h 0)), (1, .int p0), (5, .int v12), (6, .int v13)] dX4_drafts_80 (by decide) rfl ?_
                  refine g_aload_n C (pc := 82) dX4_drafts_82 1 rfl ?_
                  refine g_get C (pc := 83) inX4_drafts_4 rfl 2 (by decide) (List.mem_of_getElem? (i := 1) rfl) dX4_drafts_83 0 rfl (.ref (h 25)) rfl ?_
                  refine g_iload C (pc := 86) dX4_drafts_86 0 rfl ?_
                  refine g_ldc C (pc := 88) (v := 2147483647) dX4_drafts_88 (List.mem_of_getElem? (i := 6) rfl) ?_
                  refine g_iand C (pc := 90) dX4_drafts_90 ?_
                  refine g_sipush C (pc := 91) dX4_drafts_91 cS_256 ?_
                  refine g_idiv C (pc := 94) dX4_drafts_94 nz_256 ?_
                  refine g_bipush C (pc := 95) dX4_drafts_95 cB_10 ?_
                  refine g_irem C (pc := 97) dX4_drafts_97 nz_10 ?_
                  refine g_put C (pc := 98) tyX0 tyX0_ok nmX0 inX4_drafts_0 rfl 16 (by decide) rfl (List.mem_of_getElem? (i := 7) rfl) dX4_drafts_98 rfl rfl 25 rfl (Nat.le_of_ble_eq_true rfl) (mainW cA h) (sa M14 25 (up (M14 25) 16 (((x23 &&& 2147483647) / 256) - ((x23 &&& 2147483647) / 256) / 10 * 10))) rfl (fun M24 eM24 => ?_)
                  have hz24 : (Zmain M24) := by rw [eM24]; exact hz14
                  refine g_sub [1, 2, 0, 3, 4] rfl ?_
                  exact Jw16 (M24, x23) hz24
        refine g_sub [4, 5, 2, 1, 0] rfl ?_
        exact L53 _ M10 p1 0 0 hz10 (Nat.lt_succ_self _)
      · refine g_iload_n C (pc := 31) dX4_drafts_31 0 rfl ?_
        exact r_ei C rfl dX4_drafts_32 hz6
    · refine g_icmp_le0 C (pc := 15) 22 dX4_drafts_15 (by decide) (fun c3 => ?_) (fun c3 => ?_)
      · refine g_iconst C (pc := 22) dX4_drafts_22 cI_0 ?_
        refine g_sub [0, 1, 2] rfl ?_
        exact g_lf (if_pos c3) (Jv4 _ (Eq.symm (if_pos c3)))
      · refine g_iconst C (pc := 18) dX4_drafts_18 cI_1 ?_
        refine g_goto C (pc := 19) 23 dX4_drafts_19 (by decide) ?_
        refine g_sub [0, 1, 2] rfl ?_
        exact g_lf (if_neg c3) (Jv4 _ (Eq.symm (if_neg c3)))
  · refine g_icmp_ge0 C (pc := 3) 10 dX4_drafts_3 (by decide) (fun c1 => ?_) (fun c1 => ?_)
    · refine g_iconst C (pc := 10) dX4_drafts_10 cI_0 ?_
      refine g_sub [0, 1, 2] rfl ?_
      exact g_lf (if_pos c1) (Jv2 _ (Eq.symm (if_pos c1)))
    · refine g_iconst C (pc := 6) dX4_drafts_6 cI_1 ?_
      refine g_goto C (pc := 7) 11 dX4_drafts_7 (by decide) ?_
      refine g_sub [0, 1, 2] rfl ?_
      exact g_lf (if_neg c1) (Jv2 _ (Eq.symm (if_neg c1)))
theorem inX4_image_0 : ∀ w ∈ u_ws RX0 TX0 18, w ∈ wsX4_image := by decide +kernel
theorem inX4_image_4 : ∀ w ∈ u_ws RX4 TX4 8, w ∈ wsX4_image := by decide +kernel
noncomputable def xX4_image (M : St) : Int32 × St := nm (xX0_become (sh2 13 12 1 M)) fun z1 => nm (put2 13 12 1 12 z1 M) fun M2 => nm (sa M2 0 (up (M2 0) 7 1)) fun M3 => (M3 1 10, M3)
set_option maxHeartbeats 4000000 in
set_option maxRecDepth 100000 in
theorem kX4_image (l : Launch) (D : va_G) (cA : ClassId) (T : Nat × Nat × Nat) (h : Nat → Nat) (M : St) (hz : (Zmain M)) : ∀ sz : Nat, Met l yX4_image wsX4_image { frames := 4, cells := 0, slots := 0, locals := 128 } (va_Pc [.ref (h 0)] (PreW D cA T (mainW cA h M) sz)) (va_Qi (fun r u => (r, u) = (xX4_image M) ∧ (Zmain) u) (fun u => PostW D cA (va_A (mainW cA h M) sz) (mainW cA h u)) (va_A (mainW cA h M) sz)) 0 0 (va_A (mainW cA h M) sz) := by
  refine m_ei (Wf := mainW cA h) (inv := (Zmain)) (cc := cX4_image) (maxL := 1) (own := RX4) (by decide) rfl rfl (Nat.le_of_ble_eq_true rfl) (fun {p e s m args below meth c} A C X => ?_)
  show G p l e { frames := 4, cells := 0, slots := 0, locals := 128 } s m args below meth c 0 0 D A (Qei below D cA A args s 0 0 (mainW cA h) (Zmain) X) 1 X (xX4_image M) (mainW cA h M) 0 [(0, .ref (h 0))] []
  unfold xX4_image
  refine g_aload_n C (pc := 0) dX4_image_0 0 rfl ?_
  refine g_get C (pc := 1) inX4_image_4 rfl 1 (by decide) (List.mem_of_getElem? (i := 1) rfl) dX4_image_1 0 rfl (.ref (h 13)) rfl ?_
  refine g_aload_n C (pc := 4) dX4_image_4 0 rfl ?_
  refine g_get C (pc := 5) inX4_image_4 rfl 0 (by decide) (List.mem_of_getElem? (i := 2) rfl) dX4_image_5 0 rfl (.ref (h 1)) rfl ?_
  refine g_Vev C (pc := 8) (As := [.ref (h 1)]) (kX0_become l D cA T (sh2 13 12 1 h) (sh2 13 12 1 M) ⟨hz.2.2.2.2.2.1, hz.2.2.2.2.2.2.1, hz.2.2.2.2.2.2.2.1, hz.2.2.2.2.2.2.2.2.1, hz.2.2.2.2.2.2.2.2.2.1, hz.1, hz.2.1, hz.2.2.1, hz.2.2.2.1, hz.2.2.2.2.1⟩) (v_main_bird2_13_1 cA h M) gX4_image_X0_become rfl ⟨rfl, rfl⟩ ⟨Nat.le_of_ble_eq_true rfl, Nat.le_of_ble_eq_true rfl⟩ ⟨Nat.zero_le _, Nat.zero_le _⟩ rfl (Nat.le_of_ble_eq_true rfl) hdV_X0_become 0 rfl rfl rfl dX4_image_8 (fun z1 ez1 hz_z1 => ?_)
  refine g_nmW (mainW cA h) (fun M2 eM2 => ?_)
  have hz2 : (Zmain M2) := by rw [eM2]; exact ⟨hz_z1.2.2.2.2.2.1, hz_z1.2.2.2.2.2.2.1, hz_z1.2.2.2.2.2.2.2.1, hz_z1.2.2.2.2.2.2.2.2.1, hz_z1.2.2.2.2.2.2.2.2.2, hz_z1.1, hz_z1.2.1, hz_z1.2.2.1, hz_z1.2.2.2.1, hz_z1.2.2.2.2.1, hz.2.2.2.2.2.2.2.2.2.2.1, hz.2.2.2.2.2.2.2.2.2.2.2.1, hz.2.2.2.2.2.2.2.2.2.2.2.2.1, hz.2.2.2.2.2.2.2.2.2.2.2.2.2.1, hz.2.2.2.2.2.2.2.2.2.2.2.2.2.2.1, hz.2.2.2.2.2.2.2.2.2.2.2.2.2.2.2.1, hz.2.2.2.2.2.2.2.2.2.2.2.2.2.2.2.2.1, hz.2.2.2.2.2.2.2.2.2.2.2.2.2.2.2.2.2.1, hz.2.2.2.2.2.2.2.2.2.2.2.2.2.2.2.2.2.2.1, hz.2.2.2.2.2.2.2.2.2.2.2.2.2.2.2.2.2.2.2.1, hz.2.2.2.2.2.2.2.2.2.2.2.2.2.2.2.2.2.2.2.2.1, hz.2.2.2.2.2.2.2.2.2.2.2.2.2.2.2.2.2.2.2.2.2.1, hz.2.2.2.2.2.2.2.2.2.2.2.2.2.2.2.2.2.2.2.2.2.2⟩
  refine g_aload_n C (pc := 11) dX4_image_11 0 rfl ?_
  refine g_iconst C (pc := 12) dX4_image_12 cI_1 ?_
  refine g_put C (pc := 13) tyX4 tyX4_ok nmX4 inX4_image_4 rfl 7 (by decide) rfl (List.mem_of_getElem? (i := 3) rfl) dX4_image_13 rfl rfl 0 rfl (Nat.le_of_ble_eq_true rfl) (mainW cA h) (sa M2 0 (up (M2 0) 7 1)) rfl (fun M3 eM3 => ?_)
  have hz3 : (Zmain M3) := by rw [eM3]; exact hz2
  refine g_aload_n C (pc := 16) dX4_image_16 0 rfl ?_
  refine g_get C (pc := 17) inX4_image_4 rfl 0 (by decide) (List.mem_of_getElem? (i := 2) rfl) dX4_image_17 0 rfl (.ref (h 1)) rfl ?_
  refine g_get C (pc := 20) inX4_image_0 rfl 10 (by decide) (List.mem_of_getElem? (i := 4) rfl) dX4_image_20 1 rfl (.int (M3 1 10)) rfl ?_
  exact r_ei C rfl dX4_image_23 hz3
theorem inX4_on_0 : ∀ w ∈ u_ws RX0 TX0 18, w ∈ wsX4_on := by decide +kernel
theorem inX4_on_4 : ∀ w ∈ u_ws RX4 TX4 8, w ∈ wsX4_on := by decide +kernel
noncomputable def xX4_on (M : St) : Int32 × St := if M 0 7 = 0 then (nm (xX4_refuse M (-3)) fun z4 => nm (z4.2) fun M5 => (z4.1, M5)) else (nm (xX0_become (sh2 1 12 13 M)) fun z2 => nm (put2 1 12 13 12 z2 M) fun M3 => (M3 1 10, M3))
set_option maxHeartbeats 4000000 in
set_option maxRecDepth 100000 in
theorem kX4_on (l : Launch) (D : va_G) (cA : ClassId) (T : Nat × Nat × Nat) (h : Nat → Nat) (M : St) (hz : (Zmain M)) : ∀ sz : Nat, Met l yX4_on wsX4_on { frames := 4, cells := 0, slots := 0, locals := 128 } (va_Pc [.ref (h 0)] (PreW D cA T (mainW cA h M) sz)) (va_Qi (fun r u => (r, u) = (xX4_on M) ∧ (Zmain) u) (fun u => PostW D cA (va_A (mainW cA h M) sz) (mainW cA h u)) (va_A (mainW cA h M) sz)) 0 0 (va_A (mainW cA h M) sz) := by
  refine m_ei (Wf := mainW cA h) (inv := (Zmain)) (cc := cX4_on) (maxL := 1) (own := RX4) (by decide) rfl rfl (Nat.le_of_ble_eq_true rfl) (fun {p e s m args below meth c} A C X => ?_)
  show G p l e { frames := 4, cells := 0, slots := 0, locals := 128 } s m args below meth c 0 0 D A (Qei below D cA A args s 0 0 (mainW cA h) (Zmain) X) 1 X (xX4_on M) (mainW cA h M) 0 [(0, .ref (h 0))] []
  unfold xX4_on
  refine g_aload_n C (pc := 0) dX4_on_0 0 rfl ?_
  refine g_get C (pc := 1) inX4_on_4 rfl 7 (by decide) (List.mem_of_getElem? (i := 1) rfl) dX4_on_1 0 rfl (.int (M 0 7)) rfl ?_
  refine g_if_ne C (pc := 4) 14 dX4_on_4 (by decide) (fun c1 => ?_) (fun c1 => ?_)
  · refine g_aload_n C (pc := 14) dX4_on_14 0 rfl ?_
    refine g_get C (pc := 15) inX4_on_4 rfl 0 (by decide) (List.mem_of_getElem? (i := 2) rfl) dX4_on_15 0 rfl (.ref (h 1)) rfl ?_
    refine g_aload_n C (pc := 18) dX4_on_18 0 rfl ?_
    refine g_get C (pc := 19) inX4_on_4 rfl 1 (by decide) (List.mem_of_getElem? (i := 3) rfl) dX4_on_19 0 rfl (.ref (h 13)) rfl ?_
    refine g_Vev C (pc := 22) (As := [.ref (h 13)]) (kX0_become l D cA T (sh2 1 12 13 h) (sh2 1 12 13 M) ⟨hz.1, hz.2.1, hz.2.2.1, hz.2.2.2.1, hz.2.2.2.2.1, hz.2.2.2.2.2.1, hz.2.2.2.2.2.2.1, hz.2.2.2.2.2.2.2.1, hz.2.2.2.2.2.2.2.2.1, hz.2.2.2.2.2.2.2.2.2.1⟩) (v_main_bird2_1_13 cA h M) gX4_on_X0_become rfl ⟨rfl, rfl⟩ ⟨Nat.le_of_ble_eq_true rfl, Nat.le_of_ble_eq_true rfl⟩ ⟨Nat.zero_le _, Nat.zero_le _⟩ rfl (Nat.le_of_ble_eq_true rfl) hdV_X0_become 0 rfl rfl rfl dX4_on_22 (fun z2 ez2 hz_z2 => ?_)
    refine g_nmW (mainW cA h) (fun M3 eM3 => ?_)
    have hz3 : (Zmain M3) := by rw [eM3]; exact ⟨hz_z2.1, hz_z2.2.1, hz_z2.2.2.1, hz_z2.2.2.2.1, hz_z2.2.2.2.2.1, hz_z2.2.2.2.2.2.1, hz_z2.2.2.2.2.2.2.1, hz_z2.2.2.2.2.2.2.2.1, hz_z2.2.2.2.2.2.2.2.2.1, hz_z2.2.2.2.2.2.2.2.2.2, hz.2.2.2.2.2.2.2.2.2.2.1, hz.2.2.2.2.2.2.2.2.2.2.2.1, hz.2.2.2.2.2.2.2.2.2.2.2.2.1, hz.2.2.2.2.2.2.2.2.2.2.2.2.2.1, hz.2.2.2.2.2.2.2.2.2.2.2.2.2.2.1, hz.2.2.2.2.2.2.2.2.2.2.2.2.2.2.2.1, hz.2.2.2.2.2.2.2.2.2.2.2.2.2.2.2.2.1, hz.2.2.2.2.2.2.2.2.2.2.2.2.2.2.2.2.2.1, hz.2.2.2.2.2.2.2.2.2.2.2.2.2.2.2.2.2.2.1, hz.2.2.2.2.2.2.2.2.2.2.2.2.2.2.2.2.2.2.2.1, hz.2.2.2.2.2.2.2.2.2.2.2.2.2.2.2.2.2.2.2.2.1, hz.2.2.2.2.2.2.2.2.2.2.2.2.2.2.2.2.2.2.2.2.2.1, hz.2.2.2.2.2.2.2.2.2.2.2.2.2.2.2.2.2.2.2.2.2.2⟩
    refine g_aload_n C (pc := 25) dX4_on_25 0 rfl ?_
    refine g_get C (pc := 26) inX4_on_4 rfl 0 (by decide) (List.mem_of_getElem? (i := 2) rfl) dX4_on_26 0 rfl (.ref (h 1)) rfl ?_
    refine g_get C (pc := 29) inX4_on_0 rfl 10 (by decide) (List.mem_of_getElem? (i := 4) rfl) dX4_on_29 1 rfl (.int (M3 1 10)) rfl ?_
    exact r_ei C rfl dX4_on_32 hz3
  · refine g_aload_n C (pc := 7) dX4_on_7 0 rfl ?_
    refine g_bipush C (pc := 8) dX4_on_8 cB_m3 ?_
    refine g_Vei C (pc := 10) (As := [.int (-3)]) (kX4_refuse l D cA T h M (-3) hz) (v_id (mainW cA h) M 56 (fun _ => rfl) rfl) gX4_on_X4_refuse rfl ⟨rfl, rfl⟩ ⟨Nat.le_of_ble_eq_true rfl, Nat.le_of_ble_eq_true rfl⟩ ⟨Nat.zero_le _, Nat.zero_le _⟩ rfl (Nat.le_of_ble_eq_true rfl) hdV_X4_refuse 0 rfl rfl rfl dX4_on_10 (fun z4 ez4 hz_z4 => ?_)
    refine g_nmW (mainW cA h) (fun M5 eM5 => ?_)
    have hz5 : (Zmain M5) := by rw [eM5]; exact hz_z4
    exact r_ei C rfl dX4_on_13 hz5
theorem inX4_count_0 : ∀ w ∈ u_ws RX0 TX0 18, w ∈ wsX4_count := by decide +kernel
theorem inX4_count_3 : ∀ w ∈ u_ws RX3 TX3 6, w ∈ wsX4_count := by decide +kernel
theorem inX4_count_4 : ∀ w ∈ u_ws RX4 TX4 8, w ∈ wsX4_count := by decide +kernel
noncomputable def xX4_count_j24 (M : St) (p0 : Int32) : Int32 × St := if p0 = 0 then (((xX1_size 60 (sh 11 M)), M)) else (if p0 = 1 then (((xX2_size (sh 4 M)), M)) else (if p0 = 2 then (((xX1_size 10 (sh 52 M)), M)) else (if p0 = 3 then (((xX1_size 64 (sh 50 M)), M)) else (((-9), M)))))
noncomputable def xX4_count (M : St) (p0 : Int32) : Int32 × St := if p0 < 11 then (xX4_count_j24 M p0) else (if 16 < p0 then (xX4_count_j24 M p0) else (((xX1_at 7 (sh 54 M) (p0 - 10)), M)))
set_option maxHeartbeats 4000000 in
set_option maxRecDepth 100000 in
theorem kX4_count (l : Launch) (D : va_G) (cA : ClassId) (T : Nat × Nat × Nat) (h : Nat → Nat) (M : St) (p0 : Int32) (hz : (Zmain M)) : ∀ sz : Nat, Met l yX4_count wsX4_count { frames := 2, cells := 0, slots := 0, locals := 40 } (va_Pc [.ref (h 0), .int p0] (PreW D cA T (mainW cA h M) sz)) (va_Qi (fun r u => (r, u) = (xX4_count M p0) ∧ (Zmain) u) (fun u => PostW D cA (va_A (mainW cA h M) sz) (mainW cA h u)) (va_A (mainW cA h M) sz)) 0 0 (va_A (mainW cA h M) sz) := by
  refine m_ei (Wf := mainW cA h) (inv := (Zmain)) (cc := cX4_count) (maxL := 2) (own := RX4) (by decide) rfl rfl (Nat.le_of_ble_eq_true rfl) (fun {p e s m args below meth c} A C X => ?_)
  show G p l e { frames := 2, cells := 0, slots := 0, locals := 40 } s m args below meth c 0 0 D A (Qei below D cA A args s 0 0 (mainW cA h) (Zmain) X) 2 X (xX4_count M p0) (mainW cA h M) 0 [(0, .ref (h 0)), (1, .int p0)] []
  unfold xX4_count
  refine g_iload_n C (pc := 0) dX4_count_0 1 rfl ?_
  refine g_bipush C (pc := 1) dX4_count_1 cB_11 ?_
  have J24 : ∀ (_ : True), G p l e { frames := 2, cells := 0, slots := 0, locals := 40 } s m args below meth c 0 0 D A (Qei below D cA A args s 0 0 (mainW cA h) (Zmain) X) 2 X (xX4_count_j24 M p0) (mainW cA h M) 24 [(0, .ref (h 0)), (1, .int p0)] [] := by
    intro _
    unfold xX4_count_j24
    refine g_iload_n C (pc := 24) dX4_count_24 1 rfl ?_
    refine g_case (p0) 0 (fun c1 => ?_) (fun c1 => ?_)
    · refine g_tblIn C (pc := 25) 56 dX4_count_25 c1 (rfl : (0 : Int32).toInt = 0) (by decide) (by decide) rfl (by decide) ?_
      refine g_aload_n C (pc := 56) dX4_count_56 0 rfl ?_
      refine g_get C (pc := 57) inX4_count_4 rfl 0 (by decide) (List.mem_of_getElem? (i := 2) rfl) dX4_count_57 0 rfl (.ref (h 1)) rfl ?_
      refine g_get C (pc := 60) inX4_count_0 rfl 2 (by decide) (List.mem_of_getElem? (i := 3) rfl) dX4_count_60 1 rfl (.ref (h 11)) rfl ?_
      refine g_Vpi C (pc := 63) (As := []) (kX1_size l D cA T 60 (sh 11 h) (sh 11 M) hz.2.2.2.2.1) (v_main_cells_11 cA h M) gX4_count_X1_size rfl ⟨rfl, rfl⟩ ⟨Nat.le_of_ble_eq_true rfl, Nat.le_of_ble_eq_true rfl⟩ ⟨Nat.zero_le _, Nat.zero_le _⟩ rfl (Nat.le_of_ble_eq_true rfl) hdV_X1_size 0 rfl rfl rfl dX4_count_63 ?_
      exact r_ei C rfl dX4_count_66 hz
    · refine g_case (p0) 1 (fun c2 => ?_) (fun c2 => ?_)
      · refine g_tblIn C (pc := 25) 67 dX4_count_25 c2 (rfl : (1 : Int32).toInt = 1) (by decide) (by decide) rfl (by decide) ?_
        refine g_aload_n C (pc := 67) dX4_count_67 0 rfl ?_
        refine g_get C (pc := 68) inX4_count_4 rfl 0 (by decide) (List.mem_of_getElem? (i := 2) rfl) dX4_count_68 0 rfl (.ref (h 1)) rfl ?_
        refine g_get C (pc := 71) inX4_count_0 rfl 1 (by decide) (List.mem_of_getElem? (i := 4) rfl) dX4_count_71 1 rfl (.ref (h 4)) rfl ?_
        refine g_Vpi C (pc := 74) (As := []) (kX2_size l D cA T (sh 4 h) (sh 4 M) ⟨hz.2.1, hz.2.2.1, hz.2.2.2.1⟩) (v_main_hours_4 cA h M) gX4_count_X2_size rfl ⟨rfl, rfl⟩ ⟨Nat.le_of_ble_eq_true rfl, Nat.le_of_ble_eq_true rfl⟩ ⟨Nat.zero_le _, Nat.zero_le _⟩ rfl (Nat.le_of_ble_eq_true rfl) hdV_X2_size 0 rfl rfl rfl dX4_count_74 ?_
        exact r_ei C rfl dX4_count_77 hz
      · refine g_case (p0) 2 (fun c3 => ?_) (fun c3 => ?_)
        · refine g_tblIn C (pc := 25) 78 dX4_count_25 c3 (rfl : (2 : Int32).toInt = 2) (by decide) (by decide) rfl (by decide) ?_
          refine g_aload_n C (pc := 78) dX4_count_78 0 rfl ?_
          refine g_get C (pc := 79) inX4_count_4 rfl 5 (by decide) (List.mem_of_getElem? (i := 5) rfl) dX4_count_79 0 rfl (.ref (h 52)) rfl ?_
          refine g_Vpi C (pc := 82) (As := []) (kX1_size l D cA T 10 (sh 52 h) (sh 52 M) hz.2.2.2.2.2.2.2.2.2.2.2.2.2.2.2.2.2.2.2.2.2.1) (v_main_cells_52 cA h M) gX4_count_X1_size rfl ⟨rfl, rfl⟩ ⟨Nat.le_of_ble_eq_true rfl, Nat.le_of_ble_eq_true rfl⟩ ⟨Nat.zero_le _, Nat.zero_le _⟩ rfl (Nat.le_of_ble_eq_true rfl) hdV_X1_size 0 rfl rfl rfl dX4_count_82 ?_
          exact r_ei C rfl dX4_count_85 hz
        · refine g_case (p0) 3 (fun c4 => ?_) (fun c4 => ?_)
          · refine g_tblIn C (pc := 25) 86 dX4_count_25 c4 (rfl : (3 : Int32).toInt = 3) (by decide) (by decide) rfl (by decide) ?_
            refine g_aload_n C (pc := 86) dX4_count_86 0 rfl ?_
            refine g_get C (pc := 87) inX4_count_4 rfl 4 (by decide) (List.mem_of_getElem? (i := 6) rfl) dX4_count_87 0 rfl (.ref (h 49)) rfl ?_
            refine g_get C (pc := 90) inX4_count_3 rfl 0 (by decide) (List.mem_of_getElem? (i := 7) rfl) dX4_count_90 49 rfl (.ref (h 50)) rfl ?_
            refine g_Vpi C (pc := 93) (As := []) (kX1_size l D cA T 64 (sh 50 h) (sh 50 M) hz.2.2.2.2.2.2.2.2.2.2.2.2.2.2.2.2.2.2.2.2.1) (v_main_cells_50 cA h M) gX4_count_X1_size rfl ⟨rfl, rfl⟩ ⟨Nat.le_of_ble_eq_true rfl, Nat.le_of_ble_eq_true rfl⟩ ⟨Nat.zero_le _, Nat.zero_le _⟩ rfl (Nat.le_of_ble_eq_true rfl) hdV_X1_size 0 rfl rfl rfl dX4_count_93 ?_
            exact r_ei C rfl dX4_count_96 hz
          · refine g_tblOut C (pc := 25) 97 dX4_count_25 (by have q0 : ¬ (p0 : Int32).toInt = 0 := lv_neT c1 rfl; have q1 : ¬ (p0 : Int32).toInt = 1 := lv_neT c2 rfl; have q2 : ¬ (p0 : Int32).toInt = 2 := lv_neT c3 rfl; have q3 : ¬ (p0 : Int32).toInt = 3 := lv_neT c4 rfl; omega) (by decide) ?_
            refine g_bipush C (pc := 97) dX4_count_97 cB_m9 ?_
            exact r_ei C rfl dX4_count_99 hz
  refine g_icmp_lt C (pc := 3) 24 dX4_count_3 (by decide) (fun c5 => ?_) (fun c5 => ?_)
  · refine g_sub [0, 1] rfl ?_
    exact J24 trivial
  · refine g_iload_n C (pc := 6) dX4_count_6 1 rfl ?_
    refine g_bipush C (pc := 7) dX4_count_7 cB_16 ?_
    refine g_icmp_gt C (pc := 9) 24 dX4_count_9 (by decide) (fun c6 => ?_) (fun c6 => ?_)
    · refine g_sub [0, 1] rfl ?_
      exact J24 trivial
    · refine g_aload_n C (pc := 12) dX4_count_12 0 rfl ?_
      refine g_get C (pc := 13) inX4_count_4 rfl 6 (by decide) (List.mem_of_getElem? (i := 1) rfl) dX4_count_13 0 rfl (.ref (h 54)) rfl ?_
      refine g_iload_n C (pc := 16) dX4_count_16 1 rfl ?_
      refine g_bipush C (pc := 17) dX4_count_17 cB_10 ?_
      refine g_isub C (pc := 19) dX4_count_19 ?_
      refine g_Vpi C (pc := 20) (As := [.int (p0 - 10)]) (kX1_at l D cA T 7 (sh 54 h) (sh 54 M) (p0 - 10) hz.2.2.2.2.2.2.2.2.2.2.2.2.2.2.2.2.2.2.2.2.2.2) (v_main_cells_54 cA h M) gX4_count_X1_at rfl ⟨rfl, rfl⟩ ⟨Nat.le_of_ble_eq_true rfl, Nat.le_of_ble_eq_true rfl⟩ ⟨Nat.zero_le _, Nat.zero_le _⟩ rfl (Nat.le_of_ble_eq_true rfl) hdV_X1_at 0 rfl rfl rfl dX4_count_20 ?_
      exact r_ei C rfl dX4_count_23 hz
theorem inX4_full_4 : ∀ w ∈ u_ws RX4 TX4 8, w ∈ wsX4_full := by decide +kernel
noncomputable def xX4_full (M : St) : Int32 := (xX0_height (sh 1 M))
set_option maxHeartbeats 4000000 in
set_option maxRecDepth 100000 in
theorem kX4_full (l : Launch) (D : va_G) (cA : ClassId) (T : Nat × Nat × Nat) (h : Nat → Nat) (M : St) (hz : (Zmain M)) : ∀ sz : Nat, Met l yX4_full wsX4_full { frames := 2, cells := 0, slots := 0, locals := 41 } (va_Pc [.ref (h 0)] (PreW D cA T (mainW cA h M) sz)) (va_Qi (fun r (_ : Unit) => r = (xX4_full M)) (fun _ => PostW D cA (va_A (mainW cA h M) sz) (mainW cA h M)) (va_A (mainW cA h M) sz)) 0 0 (va_A (mainW cA h M) sz) := by
  refine m_pi (cc := cX4_full) (maxL := 1) (own := RX4) (by decide) rfl rfl (Nat.le_of_ble_eq_true rfl) (fun {p e s m args below meth c} A C X => ?_)
  show G p l e { frames := 2, cells := 0, slots := 0, locals := 41 } s m args below meth c 0 0 D A (Qpi below D cA A args s (mainW cA h M) X) 1 X (xX4_full M) (mainW cA h M) 0 [(0, .ref (h 0))] []
  unfold xX4_full
  refine g_aload_n C (pc := 0) dX4_full_0 0 rfl ?_
  refine g_get C (pc := 1) inX4_full_4 rfl 0 (by decide) (List.mem_of_getElem? (i := 1) rfl) dX4_full_1 0 rfl (.ref (h 1)) rfl ?_
  refine g_Vpi C (pc := 4) (As := []) (kX0_height l D cA T (sh 1 h) (sh 1 M) ⟨hz.1, hz.2.1, hz.2.2.1, hz.2.2.2.1, hz.2.2.2.2.1⟩) (v_main_bird_1 cA h M) gX4_full_X0_height rfl ⟨rfl, rfl⟩ ⟨Nat.le_of_ble_eq_true rfl, Nat.le_of_ble_eq_true rfl⟩ ⟨Nat.zero_le _, Nat.zero_le _⟩ rfl (Nat.le_of_ble_eq_true rfl) hdV_X0_height 0 rfl rfl rfl dX4_full_4 ?_
  exact r_pi C rfl dX4_full_7
