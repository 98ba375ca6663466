theorem inX0_airOf_0 : ∀ w ∈ u_ws RX0 TX0 18, w ∈ wsX0_airOf := by decide +kernel
noncomputable def xX0_airOf_j19 (M : St) (p0 : Int32) : Int32 := (xX2_valueOf (sh 3 M) p0 (M 0 10) (xX1_at 15 (sh 1 M) p0))
noncomputable def xX0_airOf (M : St) (p0 : Int32) : Int32 := if p0 = 9 then (if M 0 16 = (-1) then (xX0_airOf_j19 M p0) else (M 0 16)) else (xX0_airOf_j19 M p0)
set_option maxHeartbeats 4000000 in
set_option maxRecDepth 100000 in
theorem kX0_airOf (l : Launch) (D : va_G) (cA : ClassId) (T : Nat × Nat × Nat) (h : Nat → Nat) (M : St) (p0 : Int32) (hz : (Zbird M)) : ∀ sz : Nat, Met l yX0_airOf wsX0_airOf { frames := 2, cells := 0, slots := 0, locals := 48 } (va_Pc [.ref (h 0), .int p0] (PreW D cA T (birdW cA h M) sz)) (va_Qi (fun r (_ : Unit) => r = (xX0_airOf M p0)) (fun _ => PostW D cA (va_A (birdW cA h M) sz) (birdW cA h M)) (va_A (birdW cA h M) sz)) 0 0 (va_A (birdW cA h M) sz) := by
  refine m_pi (cc := cX0_airOf) (maxL := 2) (own := RX0) (by decide) rfl rfl (Nat.le_of_ble_eq_true rfl) (fun {p e s m args below meth c} A C X => ?_)
  show G p l e { frames := 2, cells := 0, slots := 0, locals := 48 } s m args below meth c 0 0 D A (Qpi below D cA A args s (birdW cA h M) X) 2 X (xX0_airOf M p0) (birdW cA h M) 0 [(0, .ref (h 0)), (1, .int p0)] []
  unfold xX0_airOf
  refine g_iload_n C (pc := 0) dX0_airOf_0 1 rfl ?_
  refine g_bipush C (pc := 1) dX0_airOf_1 cB_9 ?_
  have J19 : ∀ (_ : True), G p l e { frames := 2, cells := 0, slots := 0, locals := 48 } s m args below meth c 0 0 D A (Qpi below D cA A args s (birdW cA h M) X) 2 X (xX0_airOf_j19 M p0) (birdW cA h M) 19 [(0, .ref (h 0)), (1, .int p0)] [] := by
    intro _
    unfold xX0_airOf_j19
    refine g_aload_n C (pc := 19) dX0_airOf_19 0 rfl ?_
    refine g_get C (pc := 20) inX0_airOf_0 rfl 1 (by decide) (List.mem_of_getElem? (i := 2) rfl) dX0_airOf_20 0 rfl (.ref (h 3)) rfl ?_
    refine g_iload_n C (pc := 23) dX0_airOf_23 1 rfl ?_
    refine g_aload_n C (pc := 24) dX0_airOf_24 0 rfl ?_
    refine g_get C (pc := 25) inX0_airOf_0 rfl 10 (by decide) (List.mem_of_getElem? (i := 3) rfl) dX0_airOf_25 0 rfl (.int (M 0 10)) rfl ?_
    refine g_aload_n C (pc := 28) dX0_airOf_28 0 rfl ?_
    refine g_get C (pc := 29) inX0_airOf_0 rfl 0 (by decide) (List.mem_of_getElem? (i := 4) rfl) dX0_airOf_29 0 rfl (.ref (h 1)) rfl ?_
    refine g_iload_n C (pc := 32) dX0_airOf_32 1 rfl ?_
    refine g_Vpi C (pc := 33) (As := [.int p0]) (kX1_at l D cA T 15 (sh 1 h) (sh 1 M) p0 hz.1) (v_bird_cells_1 cA h M) gX0_airOf_X1_at rfl ⟨rfl, rfl⟩ ⟨Nat.le_of_ble_eq_true rfl, Nat.le_of_ble_eq_true rfl⟩ ⟨Nat.zero_le _, Nat.zero_le _⟩ rfl (Nat.le_of_ble_eq_true rfl) hdV_X1_at 0 rfl rfl rfl dX0_airOf_33 ?_
    refine g_Vpi C (pc := 36) (As := [.int p0, .int (M 0 10), .int (xX1_at 15 (sh 1 M) p0)]) (kX2_valueOf l D cA T (sh 3 h) (sh 3 M) p0 (M 0 10) (xX1_at 15 (sh 1 M) p0) ⟨hz.2.1, hz.2.2.1, hz.2.2.2.1⟩) (v_bird_hours_3 cA h M) gX0_airOf_X2_valueOf rfl ⟨rfl, rfl⟩ ⟨Nat.le_of_ble_eq_true rfl, Nat.le_of_ble_eq_true rfl⟩ ⟨Nat.zero_le _, Nat.zero_le _⟩ rfl (Nat.le_of_ble_eq_true rfl) hdV_X2_valueOf 0 rfl rfl rfl dX0_airOf_36 ?_
    exact r_pi C rfl dX0_airOf_39
  refine g_icmp_ne C (pc := 3) 19 dX0_airOf_3 (by decide) (fun c1 => ?_) (fun c1 => ?_)
  · refine g_sub [0, 1] rfl ?_
    exact J19 trivial
  · refine g_aload_n C (pc := 6) dX0_airOf_6 0 rfl ?_
    refine g_get C (pc := 7) inX0_airOf_0 rfl 16 (by decide) (List.mem_of_getElem? (i := 1) rfl) dX0_airOf_7 0 rfl (.int (M 0 16)) rfl ?_
    refine g_iconst C (pc := 10) dX0_airOf_10 cI_m1 ?_
    refine g_icmp_eq C (pc := 11) 19 dX0_airOf_11 (by decide) (fun c2 => ?_) (fun c2 => ?_)
    · refine g_sub [0, 1] rfl ?_
      exact J19 trivial
    · refine g_aload_n C (pc := 14) dX0_airOf_14 0 rfl ?_
      refine g_get C (pc := 15) inX0_airOf_0 rfl 16 (by decide) (List.mem_of_getElem? (i := 1) rfl) dX0_airOf_15 0 rfl (.int (M 0 16)) rfl ?_
      exact r_pi C rfl dX0_airOf_18
theorem inX0_height_0 : ∀ w ∈ u_ws RX0 TX0 18, w ∈ wsX0_height := by decide +kernel
noncomputable def xX0_height (M : St) : Int32 := (((xX1_at 15 (sh 1 M) 2) * (xX1_at 15 (sh 1 M) 1)) + (10 * (xX1_at 15 (sh 1 M) 5)))
set_option maxHeartbeats 4000000 in
set_option maxRecDepth 100000 in
theorem kX0_height (l : Launch) (D : va_G) (cA : ClassId) (T : Nat × Nat × Nat) (h : Nat → Nat) (M : St) (hz : (Zbird M)) : ∀ sz : Nat, Met l yX0_height wsX0_height { frames := 1, cells := 0, slots := 0, locals := 21 } (va_Pc [.ref (h 0)] (PreW D cA T (birdW cA h M) sz)) (va_Qi (fun r (_ : Unit) => r = (xX0_height M)) (fun _ => PostW D cA (va_A (birdW cA h M) sz) (birdW cA h M)) (va_A (birdW cA h M) sz)) 0 0 (va_A (birdW cA h M) sz) := by
  refine m_pi (cc := cX0_height) (maxL := 1) (own := RX0) (by decide) rfl rfl (Nat.le_of_ble_eq_true rfl) (fun {p e s m args below meth c} A C X => ?_)
  show G p l e { frames := 1, cells := 0, slots := 0, locals := 21 } s m args below meth c 0 0 D A (Qpi below D cA A args s (birdW cA h M) X) 1 X (xX0_height M) (birdW cA h M) 0 [(0, .ref (h 0))] []
  unfold xX0_height
  refine g_aload_n C (pc := 0) dX0_height_0 0 rfl ?_
  refine g_get C (pc := 1) inX0_height_0 rfl 0 (by decide) (List.mem_of_getElem? (i := 1) rfl) dX0_height_1 0 rfl (.ref (h 1)) rfl ?_
  refine g_iconst C (pc := 4) dX0_height_4 cI_2 ?_
  refine g_Vpi C (pc := 5) (As := [.int 2]) (kX1_at l D cA T 15 (sh 1 h) (sh 1 M) 2 hz.1) (v_bird_cells_1 cA h M) gX0_height_X1_at rfl ⟨rfl, rfl⟩ ⟨Nat.le_of_ble_eq_true rfl, Nat.le_of_ble_eq_true rfl⟩ ⟨Nat.zero_le _, Nat.zero_le _⟩ rfl (Nat.le_of_ble_eq_true rfl) hdV_X1_at 0 rfl rfl rfl dX0_height_5 ?_
  refine g_aload_n C (pc := 8) dX0_height_8 0 rfl ?_
  refine g_get C (pc := 9) inX0_height_0 rfl 0 (by decide) (List.mem_of_getElem? (i := 1) rfl) dX0_height_9 0 rfl (.ref (h 1)) rfl ?_
  refine g_iconst C (pc := 12) dX0_height_12 cI_1 ?_
  refine g_Vpi C (pc := 13) (As := [.int 1]) (kX1_at l D cA T 15 (sh 1 h) (sh 1 M) 1 hz.1) (v_bird_cells_1 cA h M) gX0_height_X1_at rfl ⟨rfl, rfl⟩ ⟨Nat.le_of_ble_eq_true rfl, Nat.le_of_ble_eq_true rfl⟩ ⟨Nat.zero_le _, Nat.zero_le _⟩ rfl (Nat.le_of_ble_eq_true rfl) hdV_X1_at 0 rfl rfl rfl dX0_height_13 ?_
  refine g_imul C (pc := 16) dX0_height_16 ?_
  refine g_bipush C (pc := 17) dX0_height_17 cB_10 ?_
  refine g_aload_n C (pc := 19) dX0_height_19 0 rfl ?_
  refine g_get C (pc := 20) inX0_height_0 rfl 0 (by decide) (List.mem_of_getElem? (i := 1) rfl) dX0_height_20 0 rfl (.ref (h 1)) rfl ?_
  refine g_iconst C (pc := 23) dX0_height_23 cI_5 ?_
  refine g_Vpi C (pc := 24) (As := [.int 5]) (kX1_at l D cA T 15 (sh 1 h) (sh 1 M) 5 hz.1) (v_bird_cells_1 cA h M) gX0_height_X1_at rfl ⟨rfl, rfl⟩ ⟨Nat.le_of_ble_eq_true rfl, Nat.le_of_ble_eq_true rfl⟩ ⟨Nat.zero_le _, Nat.zero_le _⟩ rfl (Nat.le_of_ble_eq_true rfl) hdV_X1_at 0 rfl rfl rfl dX0_height_24 ?_
  refine g_imul C (pc := 27) dX0_height_27 ?_
  refine g_iadd C (pc := 28) dX0_height_28 ?_
  exact r_pi C rfl dX0_height_29
theorem inX0_mostWet_0 : ∀ w ∈ u_ws RX0 TX0 18, w ∈ wsX0_mostWet := by decide +kernel
noncomputable def xX0_mostWet (M : St) : Int32 := (100 * (xX1_at 15 (sh 1 M) 0))
set_option maxHeartbeats 4000000 in
set_option maxRecDepth 100000 in
theorem kX0_mostWet (l : Launch) (D : va_G) (cA : ClassId) (T : Nat × Nat × Nat) (h : Nat → Nat) (M : St) (hz : (Zbird M)) : ∀ sz : Nat, Met l yX0_mostWet wsX0_mostWet { frames := 1, cells := 0, slots := 0, locals := 21 } (va_Pc [.ref (h 0)] (PreW D cA T (birdW cA h M) sz)) (va_Qi (fun r (_ : Unit) => r = (xX0_mostWet M)) (fun _ => PostW D cA (va_A (birdW cA h M) sz) (birdW cA h M)) (va_A (birdW cA h M) sz)) 0 0 (va_A (birdW cA h M) sz) := by
  refine m_pi (cc := cX0_mostWet) (maxL := 1) (own := RX0) (by decide) rfl rfl (Nat.le_of_ble_eq_true rfl) (fun {p e s m args below meth c} A C X => ?_)
  show G p l e { frames := 1, cells := 0, slots := 0, locals := 21 } s m args below meth c 0 0 D A (Qpi below D cA A args s (birdW cA h M) X) 1 X (xX0_mostWet M) (birdW cA h M) 0 [(0, .ref (h 0))] []
  unfold xX0_mostWet
  refine g_bipush C (pc := 0) dX0_mostWet_0 cB_100 ?_
  refine g_aload_n C (pc := 2) dX0_mostWet_2 0 rfl ?_
  refine g_get C (pc := 3) inX0_mostWet_0 rfl 0 (by decide) (List.mem_of_getElem? (i := 1) rfl) dX0_mostWet_3 0 rfl (.ref (h 1)) rfl ?_
  refine g_iconst C (pc := 6) dX0_mostWet_6 cI_0 ?_
  refine g_Vpi C (pc := 7) (As := [.int 0]) (kX1_at l D cA T 15 (sh 1 h) (sh 1 M) 0 hz.1) (v_bird_cells_1 cA h M) gX0_mostWet_X1_at rfl ⟨rfl, rfl⟩ ⟨Nat.le_of_ble_eq_true rfl, Nat.le_of_ble_eq_true rfl⟩ ⟨Nat.zero_le _, Nat.zero_le _⟩ rfl (Nat.le_of_ble_eq_true rfl) hdV_X1_at 0 rfl rfl rfl dX0_mostWet_7 ?_
  refine g_imul C (pc := 10) dX0_mostWet_10 ?_
  exact r_pi C rfl dX0_mostWet_11
theorem inX0_gaps_0 : ∀ w ∈ u_ws RX0 TX0 18, w ∈ wsX0_gaps := by decide +kernel
noncomputable def xX0_gaps (M : St) : Int32 := (if 0 < ((xX1_size 60 (sh 10 M)) - 1) then ((xX1_size 60 (sh 10 M)) - 1) else 0)
set_option maxHeartbeats 4000000 in
set_option maxRecDepth 100000 in
theorem kX0_gaps (l : Launch) (D : va_G) (cA : ClassId) (T : Nat × Nat × Nat) (h : Nat → Nat) (M : St) (hz : (Zbird M)) : ∀ sz : Nat, Met l yX0_gaps wsX0_gaps { frames := 1, cells := 0, slots := 0, locals := 21 } (va_Pc [.ref (h 0)] (PreW D cA T (birdW cA h M) sz)) (va_Qi (fun r (_ : Unit) => r = (xX0_gaps M)) (fun _ => PostW D cA (va_A (birdW cA h M) sz) (birdW cA h M)) (va_A (birdW cA h M) sz)) 0 0 (va_A (birdW cA h M) sz) := by
  refine m_pi (cc := cX0_gaps) (maxL := 1) (own := RX0) (by decide) rfl rfl (Nat.le_of_ble_eq_true rfl) (fun {p e s m args below meth c} A C X => ?_)
  show G p l e { frames := 1, cells := 0, slots := 0, locals := 21 } s m args below meth c 0 0 D A (Qpi below D cA A args s (birdW cA h M) X) 1 X (xX0_gaps M) (birdW cA h M) 0 [(0, .ref (h 0))] []
  unfold xX0_gaps
  refine g_iconst C (pc := 0) dX0_gaps_0 cI_0 ?_
  refine g_aload_n C (pc := 1) dX0_gaps_1 0 rfl ?_
  refine g_get C (pc := 2) inX0_gaps_0 rfl 2 (by decide) (List.mem_of_getElem? (i := 1) rfl) dX0_gaps_2 0 rfl (.ref (h 10)) rfl ?_
  refine g_Vpi C (pc := 5) (As := []) (kX1_size l D cA T 60 (sh 10 h) (sh 10 M) hz.2.2.2.2) (v_bird_cells_10 cA h M) gX0_gaps_X1_size rfl ⟨rfl, rfl⟩ ⟨Nat.le_of_ble_eq_true rfl, Nat.le_of_ble_eq_true rfl⟩ ⟨Nat.zero_le _, Nat.zero_le _⟩ rfl (Nat.le_of_ble_eq_true rfl) hdV_X1_size 0 rfl rfl rfl dX0_gaps_5 ?_
  refine g_iconst C (pc := 8) dX0_gaps_8 cI_1 ?_
  refine g_isub C (pc := 9) dX0_gaps_9 ?_
  refine g_max C (pc := 10) (List.mem_of_getElem? (i := 2) rfl) (List.mem_of_getElem? (i := 3) rfl) (List.mem_of_getElem? (i := 4) rfl) (List.mem_of_getElem? (i := 5) rfl) ⟨Nat.le_of_ble_eq_true rfl, Nat.le_of_ble_eq_true rfl, Nat.zero_le _, Nat.zero_le _⟩ dX0_gaps_10 ?_
  exact r_pi C rfl dX0_gaps_13
theorem inX0_gapAt_0 : ∀ w ∈ u_ws RX0 TX0 18, w ∈ wsX0_gapAt := by decide +kernel
noncomputable def xX0_gapAt (M : St) (p0 : Int32) : Int32 := if p0 < 0 then (0) else (if (xX0_gaps M) ≤ p0 then (0) else (((xX1_at 60 (sh 10 M) (p0 + 1)) - (xX1_at 60 (sh 10 M) p0))))
set_option maxHeartbeats 4000000 in
set_option maxRecDepth 100000 in
theorem kX0_gapAt (l : Launch) (D : va_G) (cA : ClassId) (T : Nat × Nat × Nat) (h : Nat → Nat) (M : St) (p0 : Int32) (hz : (Zbird M)) : ∀ sz : Nat, Met l yX0_gapAt wsX0_gapAt { frames := 2, cells := 0, slots := 0, locals := 41 } (va_Pc [.ref (h 0), .int p0] (PreW D cA T (birdW cA h M) sz)) (va_Qi (fun r (_ : Unit) => r = (xX0_gapAt M p0)) (fun _ => PostW D cA (va_A (birdW cA h M) sz) (birdW cA h M)) (va_A (birdW cA h M) sz)) 0 0 (va_A (birdW cA h M) sz) := by
  refine m_pi (cc := cX0_gapAt) (maxL := 2) (own := RX0) (by decide) rfl rfl (Nat.le_of_ble_eq_true rfl) (fun {p e s m args below meth c} A C X => ?_)
  show G p l e { frames := 2, cells := 0, slots := 0, locals := 41 } s m args below meth c 0 0 D A (Qpi below D cA A args s (birdW cA h M) X) 2 X (xX0_gapAt M p0) (birdW cA h M) 0 [(0, .ref (h 0)), (1, .int p0)] []
  unfold xX0_gapAt
  refine g_iload_n C (pc := 0) dX0_gapAt_0 1 rfl ?_
  refine g_if_lt C (pc := 1) 34 dX0_gapAt_1 (by decide) (fun c1 => ?_) (fun c1 => ?_)
  · refine g_iconst C (pc := 34) dX0_gapAt_34 cI_0 ?_
    exact r_pi C rfl dX0_gapAt_35
  · refine g_iload_n C (pc := 4) dX0_gapAt_4 1 rfl ?_
    refine g_aload_n C (pc := 5) dX0_gapAt_5 0 rfl ?_
    refine g_Vpi C (pc := 6) (As := []) (kX0_gaps l D cA T h M hz) (v_id (birdW cA h) M 12 (fun _ => rfl) rfl) gX0_gapAt_X0_gaps rfl ⟨rfl, rfl⟩ ⟨Nat.le_of_ble_eq_true rfl, Nat.le_of_ble_eq_true rfl⟩ ⟨Nat.zero_le _, Nat.zero_le _⟩ rfl (Nat.le_of_ble_eq_true rfl) hdV_X0_gaps 0 rfl rfl rfl dX0_gapAt_6 ?_
    refine g_icmp_ge C (pc := 9) 34 dX0_gapAt_9 (by decide) (fun c2 => ?_) (fun c2 => ?_)
    · refine g_iconst C (pc := 34) dX0_gapAt_34 cI_0 ?_
      exact r_pi C rfl dX0_gapAt_35
    · refine g_aload_n C (pc := 12) dX0_gapAt_12 0 rfl ?_
      refine g_get C (pc := 13) inX0_gapAt_0 rfl 2 (by decide) (List.mem_of_getElem? (i := 1) rfl) dX0_gapAt_13 0 rfl (.ref (h 10)) rfl ?_
      refine g_iload_n C (pc := 16) dX0_gapAt_16 1 rfl ?_
      refine g_iconst C (pc := 17) dX0_gapAt_17 cI_1 ?_
      refine g_iadd C (pc := 18) dX0_gapAt_18 ?_
      refine g_Vpi C (pc := 19) (As := [.int (p0 + 1)]) (kX1_at l D cA T 60 (sh 10 h) (sh 10 M) (p0 + 1) hz.2.2.2.2) (v_bird_cells_10 cA h M) gX0_gapAt_X1_at rfl ⟨rfl, rfl⟩ ⟨Nat.le_of_ble_eq_true rfl, Nat.le_of_ble_eq_true rfl⟩ ⟨Nat.zero_le _, Nat.zero_le _⟩ rfl (Nat.le_of_ble_eq_true rfl) hdV_X1_at 0 rfl rfl rfl dX0_gapAt_19 ?_
      refine g_aload_n C (pc := 22) dX0_gapAt_22 0 rfl ?_
      refine g_get C (pc := 23) inX0_gapAt_0 rfl 2 (by decide) (List.mem_of_getElem? (i := 1) rfl) dX0_gapAt_23 0 rfl (.ref (h 10)) rfl ?_
      refine g_iload_n C (pc := 26) dX0_gapAt_26 1 rfl ?_
      refine g_Vpi C (pc := 27) (As := [.int p0]) (kX1_at l D cA T 60 (sh 10 h) (sh 10 M) p0 hz.2.2.2.2) (v_bird_cells_10 cA h M) gX0_gapAt_X1_at rfl ⟨rfl, rfl⟩ ⟨Nat.le_of_ble_eq_true rfl, Nat.le_of_ble_eq_true rfl⟩ ⟨Nat.zero_le _, Nat.zero_le _⟩ rfl (Nat.le_of_ble_eq_true rfl) hdV_X1_at 0 rfl rfl rfl dX0_gapAt_27 ?_
      refine g_isub C (pc := 30) dX0_gapAt_30 ?_
      refine g_goto C (pc := 31) 35 dX0_gapAt_31 (by decide) ?_
      exact r_pi C rfl dX0_gapAt_35
theorem inX0_goingOff_0 : ∀ w ∈ u_ws RX0 TX0 18, w ∈ wsX0_goingOff := by decide +kernel
noncomputable def xX0_goingOff (M : St) (p0 : Int32) (p1 : Int32) : Int32 := nm (if (xX1_at 15 (sh 1 M) 12) = 1 then ((if 0 < (p0 - (M 0 8 / 1000)) then (p0 - (M 0 8 / 1000)) else 0)) else (p0) : Int32) fun v2 => nm (((v2 * (p1 + 1)) / 4) : Int32) fun x3 => nm (if (xX1_at 15 (sh 1 M) 13) = 1 then ((x3 * 2)) else (x3) : Int32) fun v5 => (if M 0 6 < v5 then M 0 6 else v5)
set_option maxHeartbeats 4000000 in
set_option maxRecDepth 100000 in
theorem kX0_goingOff (l : Launch) (D : va_G) (cA : ClassId) (T : Nat × Nat × Nat) (h : Nat → Nat) (M : St) (p0 : Int32) (p1 : Int32) (hz : (Zbird M)) : ∀ sz : Nat, Met l yX0_goingOff wsX0_goingOff { frames := 1, cells := 0, slots := 0, locals := 21 } (va_Pc [.ref (h 0), .int p0, .int p1] (PreW D cA T (birdW cA h M) sz)) (va_Qi (fun r (_ : Unit) => r = (xX0_goingOff M p0 p1)) (fun _ => PostW D cA (va_A (birdW cA h M) sz) (birdW cA h M)) (va_A (birdW cA h M) sz)) 0 0 (va_A (birdW cA h M) sz) := by
  refine m_pi (cc := cX0_goingOff) (maxL := 5) (own := RX0) (by decide) rfl rfl (Nat.le_of_ble_eq_true rfl) (fun {p e s m args below meth c} A C X => ?_)
  show G p l e { frames := 1, cells := 0, slots := 0, locals := 21 } s m args below meth c 0 0 D A (Qpi below D cA A args s (birdW cA h M) X) 5 X (xX0_goingOff M p0 p1) (birdW cA h M) 0 [(0, .ref (h 0)), (1, .int p0), (2, .int p1)] []
  unfold xX0_goingOff
  refine g_iload_n C (pc := 0) dX0_goingOff_0 1 rfl ?_
  refine g_istore_n C (pc := 1) [(3, .int p0), (0, .ref (h 0)), (1, .int p0), (2, .int p1)] dX0_goingOff_1 (by decide) rfl ?_
  refine g_aload_n C (pc := 2) dX0_goingOff_2 1 rfl ?_
  refine g_get C (pc := 3) inX0_goingOff_0 rfl 0 (by decide) (List.mem_of_getElem? (i := 1) rfl) dX0_goingOff_3 0 rfl (.ref (h 1)) rfl ?_
  refine g_bipush C (pc := 6) dX0_goingOff_6 cB_12 ?_
  refine g_Vpi C (pc := 8) (As := [.int 12]) (kX1_at l D cA T 15 (sh 1 h) (sh 1 M) 12 hz.1) (v_bird_cells_1 cA h M) gX0_goingOff_X1_at rfl ⟨rfl, rfl⟩ ⟨Nat.le_of_ble_eq_true rfl, Nat.le_of_ble_eq_true rfl⟩ ⟨Nat.zero_le _, Nat.zero_le _⟩ rfl (Nat.le_of_ble_eq_true rfl) hdV_X1_at 0 rfl rfl rfl dX0_goingOff_8 ?_
  refine g_iconst C (pc := 11) dX0_goingOff_11 cI_1 ?_
  refine g_join (α := Int32) (fun v2 => [(0, .ref (h 0)), (2, .int p1), (3, .int v2)]) (fun v2 => []) 30 (fun v2 ev2 => ?_) (fun Jv2 => ?_)
  · refine g_iload_n C (pc := 30) dX0_goingOff_30 2 rfl ?_
    refine g_iload_n C (pc := 31) dX0_goingOff_31 1 rfl ?_
    refine g_iconst C (pc := 32) dX0_goingOff_32 cI_1 ?_
    refine g_iadd C (pc := 33) dX0_goingOff_33 ?_
    refine g_imul C (pc := 34) dX0_goingOff_34 ?_
    refine g_iconst C (pc := 35) dX0_goingOff_35 cI_4 ?_
    refine g_idiv C (pc := 36) dX0_goingOff_36 nz_4 ?_
    refine g_nmi (fun x3 ex3 => ?_)
    refine g_istore C (pc := 37) [(4, .int x3), (0, .ref (h 0)), (2, .int p1), (3, .int v2)] dX0_goingOff_37 (by decide) rfl ?_
    refine g_aload_n C (pc := 39) dX0_goingOff_39 1 rfl ?_
    refine g_get C (pc := 40) inX0_goingOff_0 rfl 0 (by decide) (List.mem_of_getElem? (i := 1) rfl) dX0_goingOff_40 0 rfl (.ref (h 1)) rfl ?_
    refine g_bipush C (pc := 43) dX0_goingOff_43 cB_13 ?_
    refine g_Vpi C (pc := 45) (As := [.int 13]) (kX1_at l D cA T 15 (sh 1 h) (sh 1 M) 13 hz.1) (v_bird_cells_1 cA h M) gX0_goingOff_X1_at rfl ⟨rfl, rfl⟩ ⟨Nat.le_of_ble_eq_true rfl, Nat.le_of_ble_eq_true rfl⟩ ⟨Nat.zero_le _, Nat.zero_le _⟩ rfl (Nat.le_of_ble_eq_true rfl) hdV_X1_at 0 rfl rfl rfl dX0_goingOff_45 ?_
    refine g_iconst C (pc := 48) dX0_goingOff_48 cI_1 ?_
    refine g_join (α := Int32) (fun v5 => [(0, .ref (h 0)), (4, .int v5)]) (fun v5 => []) 58 (fun v5 ev5 => ?_) (fun Jv5 => ?_)
    · refine g_iload C (pc := 58) dX0_goingOff_58 1 rfl ?_
      refine g_aload_n C (pc := 60) dX0_goingOff_60 0 rfl ?_
      refine g_get C (pc := 61) inX0_goingOff_0 rfl 6 (by decide) (List.mem_of_getElem? (i := 7) rfl) dX0_goingOff_61 0 rfl (.int (M 0 6)) rfl ?_
      refine g_min C (pc := 64) (List.mem_of_getElem? (i := 8) rfl) (List.mem_of_getElem? (i := 9) rfl) (List.mem_of_getElem? (i := 5) rfl) (List.mem_of_getElem? (i := 10) rfl) ⟨Nat.le_of_ble_eq_true rfl, Nat.le_of_ble_eq_true rfl, Nat.zero_le _, Nat.zero_le _⟩ dX0_goingOff_64 ?_
      exact r_pi C rfl dX0_goingOff_67
    · refine g_icmp_ne0 C (pc := 49) 58 dX0_goingOff_49 (by decide) (fun c4 => ?_) (fun c4 => ?_)
      · refine g_sub [1, 0] rfl ?_
        exact g_lf (if_neg c4) (Jv5 _ (Eq.symm (if_neg c4)))
      · refine g_iload C (pc := 52) dX0_goingOff_52 0 rfl ?_
        refine g_iconst C (pc := 54) dX0_goingOff_54 cI_2 ?_
        refine g_imul C (pc := 55) dX0_goingOff_55 ?_
        refine g_istore C (pc := 56) [(4, .int (x3 * 2)), (0, .ref (h 0)), (2, .int p1), (3, .int v2)] dX0_goingOff_56 (by decide) rfl ?_
        refine g_sub [1, 0] rfl ?_
        exact g_lf (if_pos c4) (Jv5 _ (Eq.symm (if_pos c4)))
  · refine g_icmp_ne0 C (pc := 12) 30 dX0_goingOff_12 (by decide) (fun c1 => ?_) (fun c1 => ?_)
    · refine g_sub [1, 3, 0] rfl ?_
      exact g_lf (if_neg c1) (Jv2 _ (Eq.symm (if_neg c1)))
    · refine g_iconst C (pc := 15) dX0_goingOff_15 cI_0 ?_
      refine g_iload_n C (pc := 16) dX0_goingOff_16 0 rfl ?_
      refine g_aload_n C (pc := 17) dX0_goingOff_17 1 rfl ?_
      refine g_get C (pc := 18) inX0_goingOff_0 rfl 8 (by decide) (List.mem_of_getElem? (i := 2) rfl) dX0_goingOff_18 0 rfl (.int (M 0 8)) rfl ?_
      refine g_sipush C (pc := 21) dX0_goingOff_21 cS_1000 ?_
      refine g_idiv C (pc := 24) dX0_goingOff_24 nz_1000 ?_
      refine g_isub C (pc := 25) dX0_goingOff_25 ?_
      refine g_max C (pc := 26) (List.mem_of_getElem? (i := 3) rfl) (List.mem_of_getElem? (i := 4) rfl) (List.mem_of_getElem? (i := 5) rfl) (List.mem_of_getElem? (i := 6) rfl) ⟨Nat.le_of_ble_eq_true rfl, Nat.le_of_ble_eq_true rfl, Nat.zero_le _, Nat.zero_le _⟩ dX0_goingOff_26 ?_
      refine g_istore_n C (pc := 29) [(3, .int (if 0 < (p0 - (M 0 8 / 1000)) then (p0 - (M 0 8 / 1000)) else 0)), (0, .ref (h 0)), (1, .int p0), (2, .int p1)] dX0_goingOff_29 (by decide) rfl ?_
      refine g_sub [1, 3, 0] rfl ?_
      exact g_lf (if_pos c1) (Jv2 _ (Eq.symm (if_pos c1)))
theorem inX0_pressure_0 : ∀ w ∈ u_ws RX0 TX0 18, w ∈ wsX0_pressure := by decide +kernel
noncomputable def xX0_pressure (M : St) : Int32 := nm ((3 * (xX1_at 15 (sh 1 M) 6)) : Int32) fun x1 => nm (((M 0 5 - M 0 4) * (xX1_at 15 (sh 1 M) 3)) : Int32) fun x2 => nm (if x1 ≤ 0 then (x2) else ((x2 / x1)) : Int32) fun v4 => (v4 - (xX1_at 15 (sh 1 M) 4))
set_option maxHeartbeats 4000000 in
set_option maxRecDepth 100000 in
theorem kX0_pressure (l : Launch) (D : va_G) (cA : ClassId) (T : Nat × Nat × Nat) (h : Nat → Nat) (M : St) (hz : (Zbird M)) : ∀ sz : Nat, Met l yX0_pressure wsX0_pressure { frames := 1, cells := 0, slots := 0, locals := 21 } (va_Pc [.ref (h 0)] (PreW D cA T (birdW cA h M) sz)) (va_Qi (fun r (_ : Unit) => r = (xX0_pressure M)) (fun _ => PostW D cA (va_A (birdW cA h M) sz) (birdW cA h M)) (va_A (birdW cA h M) sz)) 0 0 (va_A (birdW cA h M) sz) := by
  refine m_pi (cc := cX0_pressure) (maxL := 3) (own := RX0) (by decide) rfl rfl (Nat.le_of_ble_eq_true rfl) (fun {p e s m args below meth c} A C X => ?_)
  show G p l e { frames := 1, cells := 0, slots := 0, locals := 21 } s m args below meth c 0 0 D A (Qpi below D cA A args s (birdW cA h M) X) 3 X (xX0_pressure M) (birdW cA h M) 0 [(0, .ref (h 0))] []
  unfold xX0_pressure
  refine g_iconst C (pc := 0) dX0_pressure_0 cI_3 ?_
  refine g_aload_n C (pc := 1) dX0_pressure_1 0 rfl ?_
  refine g_get C (pc := 2) inX0_pressure_0 rfl 0 (by decide) (List.mem_of_getElem? (i := 1) rfl) dX0_pressure_2 0 rfl (.ref (h 1)) rfl ?_
  refine g_bipush C (pc := 5) dX0_pressure_5 cB_6 ?_
  refine g_Vpi C (pc := 7) (As := [.int 6]) (kX1_at l D cA T 15 (sh 1 h) (sh 1 M) 6 hz.1) (v_bird_cells_1 cA h M) gX0_pressure_X1_at rfl ⟨rfl, rfl⟩ ⟨Nat.le_of_ble_eq_true rfl, Nat.le_of_ble_eq_true rfl⟩ ⟨Nat.zero_le _, Nat.zero_le _⟩ rfl (Nat.le_of_ble_eq_true rfl) hdV_X1_at 0 rfl rfl rfl dX0_pressure_7 ?_
  refine g_imul C (pc := 10) dX0_pressure_10 ?_
  refine g_nmi (fun x1 ex1 => ?_)
  refine g_istore_n C (pc := 11) [(1, .int x1), (0, .ref (h 0))] dX0_pressure_11 (by decide) rfl ?_
  refine g_aload_n C (pc := 12) dX0_pressure_12 1 rfl ?_
  refine g_get C (pc := 13) inX0_pressure_0 rfl 5 (by decide) (List.mem_of_getElem? (i := 2) rfl) dX0_pressure_13 0 rfl (.int (M 0 5)) rfl ?_
  refine g_aload_n C (pc := 16) dX0_pressure_16 1 rfl ?_
  refine g_get C (pc := 17) inX0_pressure_0 rfl 4 (by decide) (List.mem_of_getElem? (i := 3) rfl) dX0_pressure_17 0 rfl (.int (M 0 4)) rfl ?_
  refine g_isub C (pc := 20) dX0_pressure_20 ?_
  refine g_aload_n C (pc := 21) dX0_pressure_21 1 rfl ?_
  refine g_get C (pc := 22) inX0_pressure_0 rfl 0 (by decide) (List.mem_of_getElem? (i := 1) rfl) dX0_pressure_22 0 rfl (.ref (h 1)) rfl ?_
  refine g_iconst C (pc := 25) dX0_pressure_25 cI_3 ?_
  refine g_Vpi C (pc := 26) (As := [.int 3]) (kX1_at l D cA T 15 (sh 1 h) (sh 1 M) 3 hz.1) (v_bird_cells_1 cA h M) gX0_pressure_X1_at rfl ⟨rfl, rfl⟩ ⟨Nat.le_of_ble_eq_true rfl, Nat.le_of_ble_eq_true rfl⟩ ⟨Nat.zero_le _, Nat.zero_le _⟩ rfl (Nat.le_of_ble_eq_true rfl) hdV_X1_at 0 rfl rfl rfl dX0_pressure_26 ?_
  refine g_imul C (pc := 29) dX0_pressure_29 ?_
  refine g_nmi (fun x2 ex2 => ?_)
  refine g_istore_n C (pc := 30) [(2, .int x2), (1, .int x1), (0, .ref (h 0))] dX0_pressure_30 (by decide) rfl ?_
  refine g_iload_n C (pc := 31) dX0_pressure_31 1 rfl ?_
  refine g_join (α := Int32) (fun v4 => [(0, .ref (h 0))]) (fun v4 => [.int v4]) 42 (fun v4 ev4 => ?_) (fun Jv4 => ?_)
  · refine g_aload_n C (pc := 42) dX0_pressure_42 0 rfl ?_
    refine g_get C (pc := 43) inX0_pressure_0 rfl 0 (by decide) (List.mem_of_getElem? (i := 1) rfl) dX0_pressure_43 0 rfl (.ref (h 1)) rfl ?_
    refine g_iconst C (pc := 46) dX0_pressure_46 cI_4 ?_
    refine g_Vpi C (pc := 47) (As := [.int 4]) (kX1_at l D cA T 15 (sh 1 h) (sh 1 M) 4 hz.1) (v_bird_cells_1 cA h M) gX0_pressure_X1_at rfl ⟨rfl, rfl⟩ ⟨Nat.le_of_ble_eq_true rfl, Nat.le_of_ble_eq_true rfl⟩ ⟨Nat.zero_le _, Nat.zero_le _⟩ rfl (Nat.le_of_ble_eq_true rfl) hdV_X1_at 0 rfl rfl rfl dX0_pressure_47 ?_
    refine g_isub C (pc := 50) dX0_pressure_50 ?_
    exact r_pi C rfl dX0_pressure_51
  · refine g_if_le0 C (pc := 32) 41 dX0_pressure_32 (by decide) (fun c3 => ?_) (fun c3 => ?_)
    · refine g_iload_n C (pc := 41) dX0_pressure_41 0 rfl ?_
      refine g_sub [2] rfl ?_
      exact g_lf (if_pos c3) (Jv4 _ (Eq.symm (if_pos c3)))
    · refine g_iload_n C (pc := 35) dX0_pressure_35 0 rfl ?_
      refine g_iload_n C (pc := 36) dX0_pressure_36 1 rfl ?_
      refine g_idiv C (pc := 37) dX0_pressure_37 (nz_pos c3) ?_
      refine g_goto C (pc := 38) 42 dX0_pressure_38 (by decide) ?_
      refine g_sub [2] rfl ?_
      exact g_lf (if_neg c3) (Jv4 _ (Eq.symm (if_neg c3)))
theorem inX0_turn_0 : ∀ w ∈ u_ws RX0 TX0 18, w ∈ wsX0_turn := by decide +kernel
noncomputable def xX0_turn (M : St) (p0 : Int32) : St := nm (sa M 0 (up (M 0) 12 p0)) fun M1 => nm (sa M1 0 (up (M1 0) 13 0)) fun M2 => nm (if p0 = 1 then (88) else (0) : Int32) fun v4 => nm (sa M2 0 (up (M2 0) 14 v4)) fun M5 => M5
set_option maxHeartbeats 4000000 in
set_option maxRecDepth 100000 in
theorem kX0_turn (l : Launch) (D : va_G) (cA : ClassId) (T : Nat × Nat × Nat) (h : Nat → Nat) (M : St) (p0 : Int32) (hz : (Zbird M)) : ∀ sz : Nat, Met l yX0_turn wsX0_turn { frames := 0, cells := 0, slots := 0, locals := 0 } (va_Pc [.ref (h 0), .int p0] (PreW D cA T (birdW cA h M) sz)) (va_Qv (fun u => u = (xX0_turn M p0) ∧ (Zbird) u) (fun u => PostW D cA (va_A (birdW cA h M) sz) (birdW cA h u)) (va_A (birdW cA h M) sz)) 0 0 (va_A (birdW cA h M) sz) := by
  refine m_ev (Wf := birdW cA h) (inv := (Zbird)) (cc := cX0_turn) (maxL := 2) (own := RX0) (by decide) rfl rfl (Nat.le_of_ble_eq_true rfl) (fun {p e s m args below meth c} A C X => ?_)
  show G p l e { frames := 0, cells := 0, slots := 0, locals := 0 } s m args below meth c 0 0 D A (Qev below D cA A args s 0 0 (birdW cA h) (Zbird) X) 2 X (xX0_turn M p0) (birdW cA h M) 0 [(0, .ref (h 0)), (1, .int p0)] []
  unfold xX0_turn
  refine g_aload_n C (pc := 0) dX0_turn_0 0 rfl ?_
  refine g_iload_n C (pc := 1) dX0_turn_1 1 rfl ?_
  refine g_put C (pc := 2) tyX0 tyX0_ok nmX0 inX0_turn_0 rfl 12 (by decide) rfl (List.mem_of_getElem? (i := 1) rfl) dX0_turn_2 rfl rfl 0 rfl (Nat.le_of_ble_eq_true rfl) (birdW cA h) (sa M 0 (up (M 0) 12 p0)) rfl (fun M1 eM1 => ?_)
  have hz1 : (Zbird M1) := by rw [eM1]; exact hz
  refine g_aload_n C (pc := 5) dX0_turn_5 0 rfl ?_
  refine g_iconst C (pc := 6) dX0_turn_6 cI_0 ?_
  refine g_put C (pc := 7) tyX0 tyX0_ok nmX0 inX0_turn_0 rfl 13 (by decide) rfl (List.mem_of_getElem? (i := 2) rfl) dX0_turn_7 rfl rfl 0 rfl (Nat.le_of_ble_eq_true rfl) (birdW cA h) (sa M1 0 (up (M1 0) 13 0)) rfl (fun M2 eM2 => ?_)
  have hz2 : (Zbird M2) := by rw [eM2]; exact hz1
  refine g_aload_n C (pc := 10) dX0_turn_10 0 rfl ?_
  refine g_iload_n C (pc := 11) dX0_turn_11 1 rfl ?_
  refine g_iconst C (pc := 12) dX0_turn_12 cI_1 ?_
  refine g_join (α := Int32) (fun v4 => []) (fun v4 => [.int v4, .ref (h 0)]) 22 (fun v4 ev4 => ?_) (fun Jv4 => ?_)
  · refine g_put C (pc := 22) tyX0 tyX0_ok nmX0 inX0_turn_0 rfl 14 (by decide) rfl (List.mem_of_getElem? (i := 3) rfl) dX0_turn_22 rfl rfl 0 rfl (Nat.le_of_ble_eq_true rfl) (birdW cA h) (sa M2 0 (up (M2 0) 14 v4)) rfl (fun M5 eM5 => ?_)
    have hz5 : (Zbird M5) := by rw [eM5]; exact hz2
    exact r_ev C rfl dX0_turn_25 hz5
  · refine g_icmp_ne0 C (pc := 13) 21 dX0_turn_13 (by decide) (fun c3 => ?_) (fun c3 => ?_)
    · refine g_iconst C (pc := 21) dX0_turn_21 cI_0 ?_
      refine g_sub [] rfl ?_
      exact g_lf (if_neg c3) (Jv4 _ (Eq.symm (if_neg c3)))
    · refine g_bipush C (pc := 16) dX0_turn_16 cB_88 ?_
      refine g_goto C (pc := 18) 22 dX0_turn_18 (by decide) ?_
      refine g_sub [] rfl ?_
      exact g_lf (if_pos c3) (Jv4 _ (Eq.symm (if_pos c3)))
theorem inX0_tip_0 : ∀ w ∈ u_ws RX0 TX0 18, w ∈ wsX0_tip := by decide +kernel
noncomputable def xX0_tip (M : St) : St := if 5 ≤ M 0 13 then (nm (sa M 0 (up (M 0) 11 (M 0 11 + 1))) fun M2 => nm (xX1_add 60 (sh 10 M2) (M2 0 10)) fun z3 => nm (put 10 2 z3 M2) fun M4 => nm (if M4 0 3 < (xX1_at 15 (sh 1 M4) 14) then (M4) else (if M4 0 3 < 5 then (M4) else (nm (sa M4 0 (up (M4 0) 3 (M4 0 3 - 5))) fun M10 => nm (sa M10 0 (up (M10 0) 6 (if (M10 0 6 + 500) < (xX0_mostWet M10) then (M10 0 6 + 500) else (xX0_mostWet M10)))) fun M11 => M11)) : St) fun w5 => nm (w5) fun M6 => nm (xX0_turn M6 3) fun M7 => M7) else (M)
set_option maxHeartbeats 4000000 in
set_option maxRecDepth 100000 in
theorem kX0_tip (l : Launch) (D : va_G) (cA : ClassId) (T : Nat × Nat × Nat) (h : Nat → Nat) (M : St) (hz : (Zbird M)) : ∀ sz : Nat, Met l yX0_tip wsX0_tip { frames := 2, cells := 0, slots := 0, locals := 41 } (va_Pc [.ref (h 0)] (PreW D cA T (birdW cA h M) sz)) (va_Qv (fun u => u = (xX0_tip M) ∧ (Zbird) u) (fun u => PostW D cA (va_A (birdW cA h M) sz) (birdW cA h u)) (va_A (birdW cA h M) sz)) 0 0 (va_A (birdW cA h M) sz) := by
  refine m_ev (Wf := birdW cA h) (inv := (Zbird)) (cc := cX0_tip) (maxL := 1) (own := RX0) (by decide) rfl rfl (Nat.le_of_ble_eq_true rfl) (fun {p e s m args below meth c} A C X => ?_)
  show G p l e { frames := 2, cells := 0, slots := 0, locals := 41 } s m args below meth c 0 0 D A (Qev below D cA A args s 0 0 (birdW cA h) (Zbird) X) 1 X (xX0_tip M) (birdW cA h M) 0 [(0, .ref (h 0))] []
  unfold xX0_tip
  refine g_aload_n C (pc := 0) dX0_tip_0 0 rfl ?_
  refine g_get C (pc := 1) inX0_tip_0 rfl 13 (by decide) (List.mem_of_getElem? (i := 1) rfl) dX0_tip_1 0 rfl (.int (M 0 13)) rfl ?_
  refine g_iconst C (pc := 4) dX0_tip_4 cI_5 ?_
  refine g_icmp_ge C (pc := 5) 9 dX0_tip_5 (by decide) (fun c1 => ?_) (fun c1 => ?_)
  · refine g_aload_n C (pc := 9) dX0_tip_9 0 rfl ?_
    refine g_dup C (pc := 10) dX0_tip_10 rfl ?_
    refine g_get C (pc := 11) inX0_tip_0 rfl 11 (by decide) (List.mem_of_getElem? (i := 2) rfl) dX0_tip_11 0 rfl (.int (M 0 11)) rfl ?_
    refine g_iconst C (pc := 14) dX0_tip_14 cI_1 ?_
    refine g_iadd C (pc := 15) dX0_tip_15 ?_
    refine g_put C (pc := 16) tyX0 tyX0_ok nmX0 inX0_tip_0 rfl 11 (by decide) rfl (List.mem_of_getElem? (i := 2) rfl) dX0_tip_16 rfl rfl 0 rfl (Nat.le_of_ble_eq_true rfl) (birdW cA h) (sa M 0 (up (M 0) 11 (M 0 11 + 1))) rfl (fun M2 eM2 => ?_)
    have hz2 : (Zbird M2) := by rw [eM2]; exact hz
    refine g_aload_n C (pc := 19) dX0_tip_19 0 rfl ?_
    refine g_get C (pc := 20) inX0_tip_0 rfl 2 (by decide) (List.mem_of_getElem? (i := 3) rfl) dX0_tip_20 0 rfl (.ref (h 10)) rfl ?_
    refine g_aload_n C (pc := 23) dX0_tip_23 0 rfl ?_
    refine g_get C (pc := 24) inX0_tip_0 rfl 10 (by decide) (List.mem_of_getElem? (i := 4) rfl) dX0_tip_24 0 rfl (.int (M2 0 10)) rfl ?_
    refine g_Vev C (pc := 27) (As := [.int (M2 0 10)]) (kX1_add l D cA T 60 (sh 10 h) (sh 10 M2) (M2 0 10) hz2.2.2.2.2) (v_bird_cells_10 cA h M2) gX0_tip_X1_add rfl ⟨rfl, rfl⟩ ⟨Nat.le_of_ble_eq_true rfl, Nat.le_of_ble_eq_true rfl⟩ ⟨Nat.zero_le _, Nat.zero_le _⟩ rfl (Nat.le_of_ble_eq_true rfl) hdV_X1_add 0 rfl rfl rfl dX0_tip_27 (fun z3 ez3 hz_z3 => ?_)
    refine g_nmW (birdW cA h) (fun M4 eM4 => ?_)
    have hz4 : (Zbird M4) := by rw [eM4]; exact ⟨hz2.1, hz2.2.1, hz2.2.2.1, hz2.2.2.2.1, hz_z3⟩
    refine g_aload_n C (pc := 30) dX0_tip_30 0 rfl ?_
    refine g_get C (pc := 31) inX0_tip_0 rfl 3 (by decide) (List.mem_of_getElem? (i := 5) rfl) dX0_tip_31 0 rfl (.int (M4 0 3)) rfl ?_
    refine g_aload_n C (pc := 34) dX0_tip_34 0 rfl ?_
    refine g_get C (pc := 35) inX0_tip_0 rfl 0 (by decide) (List.mem_of_getElem? (i := 6) rfl) dX0_tip_35 0 rfl (.ref (h 1)) rfl ?_
    refine g_bipush C (pc := 38) dX0_tip_38 cB_14 ?_
    refine g_Vpi C (pc := 40) (As := [.int 14]) (kX1_at l D cA T 15 (sh 1 h) (sh 1 M4) 14 hz4.1) (v_bird_cells_1 cA h M4) gX0_tip_X1_at rfl ⟨rfl, rfl⟩ ⟨Nat.le_of_ble_eq_true rfl, Nat.le_of_ble_eq_true rfl⟩ ⟨Nat.zero_le _, Nat.zero_le _⟩ rfl (Nat.le_of_ble_eq_true rfl) hdV_X1_at 0 rfl rfl rfl dX0_tip_40 ?_
    refine g_inner (σ := St) (fun w5 : St => (birdW cA h w5)) (fun w5 => [(0, .ref (h 0))]) 83 (fun w5 : St => (Zbird w5)) (fun w5 ew5 hw5 => ?_) (fun X5 Jw5 => ?_)
    · refine g_nmW (birdW cA h) (fun M6 eM6 => ?_)
      have hz6 : (Zbird M6) := by rw [eM6]; exact hw5
      refine g_aload_n C (pc := 83) dX0_tip_83 0 rfl ?_
      refine g_iconst C (pc := 84) dX0_tip_84 cI_3 ?_
      refine g_Vev C (pc := 85) (As := [.int 3]) (kX0_turn l D cA T h M6 3 hz6) (v_id (birdW cA h) M6 12 (fun _ => rfl) rfl) gX0_tip_X0_turn rfl ⟨rfl, rfl⟩ ⟨Nat.le_of_ble_eq_true rfl, Nat.le_of_ble_eq_true rfl⟩ ⟨Nat.zero_le _, Nat.zero_le _⟩ rfl (Nat.le_of_ble_eq_true rfl) hdV_X0_turn 0 rfl rfl rfl dX0_tip_85 (fun M7 eM7 hz_M7 => ?_)
      have hz7 := hz_M7
      exact r_ev C rfl dX0_tip_88 hz7
    · refine g_icmp_lt C (pc := 43) 83 dX0_tip_43 (by decide) (fun c8 => ?_) (fun c8 => ?_)
      · refine g_sub [0] rfl ?_
        exact Jw5 M4 hz4
      · refine g_aload_n C (pc := 46) dX0_tip_46 0 rfl ?_
        refine g_get C (pc := 47) inX0_tip_0 rfl 3 (by decide) (List.mem_of_getElem? (i := 5) rfl) dX0_tip_47 0 rfl (.int (M4 0 3)) rfl ?_
        refine g_iconst C (pc := 50) dX0_tip_50 cI_5 ?_
        refine g_icmp_lt C (pc := 51) 83 dX0_tip_51 (by decide) (fun c9 => ?_) (fun c9 => ?_)
        · refine g_sub [0] rfl ?_
          exact Jw5 M4 hz4
        · refine g_aload_n C (pc := 54) dX0_tip_54 0 rfl ?_
          refine g_dup C (pc := 55) dX0_tip_55 rfl ?_
          refine g_get C (pc := 56) inX0_tip_0 rfl 3 (by decide) (List.mem_of_getElem? (i := 5) rfl) dX0_tip_56 0 rfl (.int (M4 0 3)) rfl ?_
          refine g_iconst C (pc := 59) dX0_tip_59 cI_5 ?_
          refine g_isub C (pc := 60) dX0_tip_60 ?_
          refine g_put C (pc := 61) tyX0 tyX0_ok nmX0 inX0_tip_0 rfl 3 (by decide) rfl (List.mem_of_getElem? (i := 5) rfl) dX0_tip_61 rfl rfl 0 rfl (Nat.le_of_ble_eq_true rfl) (birdW cA h) (sa M4 0 (up (M4 0) 3 (M4 0 3 - 5))) rfl (fun M10 eM10 => ?_)
          have hz10 : (Zbird M10) := by rw [eM10]; exact hz4
          refine g_aload_n C (pc := 64) dX0_tip_64 0 rfl ?_
          refine g_aload_n C (pc := 65) dX0_tip_65 0 rfl ?_
          refine g_Vpi C (pc := 66) (As := []) (kX0_mostWet l D cA T h M10 hz10) (v_id (birdW cA h) M10 12 (fun _ => rfl) rfl) gX0_tip_X0_mostWet rfl ⟨rfl, rfl⟩ ⟨Nat.le_of_ble_eq_true rfl, Nat.le_of_ble_eq_true rfl⟩ ⟨Nat.zero_le _, Nat.zero_le _⟩ rfl (Nat.le_of_ble_eq_true rfl) hdV_X0_mostWet 0 rfl rfl rfl dX0_tip_66 ?_
          refine g_aload_n C (pc := 69) dX0_tip_69 0 rfl ?_
          refine g_get C (pc := 70) inX0_tip_0 rfl 6 (by decide) (List.mem_of_getElem? (i := 7) rfl) dX0_tip_70 0 rfl (.int (M10 0 6)) rfl ?_
          refine g_sipush C (pc := 73) dX0_tip_73 cS_500 ?_
          refine g_iadd C (pc := 76) dX0_tip_76 ?_
          refine g_min C (pc := 77) (List.mem_of_getElem? (i := 8) rfl) (List.mem_of_getElem? (i := 9) rfl) (List.mem_of_getElem? (i := 10) rfl) (List.mem_of_getElem? (i := 11) rfl) ⟨Nat.le_of_ble_eq_true rfl, Nat.le_of_ble_eq_true rfl, Nat.zero_le _, Nat.zero_le _⟩ dX0_tip_77 ?_
          refine g_put C (pc := 80) tyX0 tyX0_ok nmX0 inX0_tip_0 rfl 6 (by decide) rfl (List.mem_of_getElem? (i := 7) rfl) dX0_tip_80 rfl rfl 0 rfl (Nat.le_of_ble_eq_true rfl) (birdW cA h) (sa M10 0 (up (M10 0) 6 (if (M10 0 6 + 500) < (xX0_mostWet M10) then (M10 0 6 + 500) else (xX0_mostWet M10)))) rfl (fun M11 eM11 => ?_)
          have hz11 : (Zbird M11) := by rw [eM11]; exact hz10
          refine g_sub [0] rfl ?_
          exact Jw5 M11 hz11
  · exact r_ev C rfl dX0_tip_8 hz
theorem inX0_empty_0 : ∀ w ∈ u_ws RX0 TX0 18, w ∈ wsX0_empty := by decide +kernel
noncomputable def xX0_empty (M : St) : St := nm (sa M 0 (up (M 0) 7 (if 0 < ((M 0 7 - (M 0 7 / 4)) - 1) then ((M 0 7 - (M 0 7 / 4)) - 1) else 0))) fun M1 => if (5 * (xX1_at 15 (sh 1 M1) 2)) < M1 0 7 then (M1) else (nm (xX0_turn M1 1) fun M3 => M3)
set_option maxHeartbeats 4000000 in
set_option maxRecDepth 100000 in
theorem kX0_empty (l : Launch) (D : va_G) (cA : ClassId) (T : Nat × Nat × Nat) (h : Nat → Nat) (M : St) (hz : (Zbird M)) : ∀ sz : Nat, Met l yX0_empty wsX0_empty { frames := 1, cells := 0, slots := 0, locals := 21 } (va_Pc [.ref (h 0)] (PreW D cA T (birdW cA h M) sz)) (va_Qv (fun u => u = (xX0_empty M) ∧ (Zbird) u) (fun u => PostW D cA (va_A (birdW cA h M) sz) (birdW cA h u)) (va_A (birdW cA h M) sz)) 0 0 (va_A (birdW cA h M) sz) := by
  refine m_ev (Wf := birdW cA h) (inv := (Zbird)) (cc := cX0_empty) (maxL := 1) (own := RX0) (by decide) rfl rfl (Nat.le_of_ble_eq_true rfl) (fun {p e s m args below meth c} A C X => ?_)
  show G p l e { frames := 1, cells := 0, slots := 0, locals := 21 } s m args below meth c 0 0 D A (Qev below D cA A args s 0 0 (birdW cA h) (Zbird) X) 1 X (xX0_empty M) (birdW cA h M) 0 [(0, .ref (h 0))] []
  unfold xX0_empty
  refine g_aload_n C (pc := 0) dX0_empty_0 0 rfl ?_
  refine g_iconst C (pc := 1) dX0_empty_1 cI_0 ?_
  refine g_aload_n C (pc := 2) dX0_empty_2 0 rfl ?_
  refine g_get C (pc := 3) inX0_empty_0 rfl 7 (by decide) (List.mem_of_getElem? (i := 1) rfl) dX0_empty_3 0 rfl (.int (M 0 7)) rfl ?_
  refine g_aload_n C (pc := 6) dX0_empty_6 0 rfl ?_
  refine g_get C (pc := 7) inX0_empty_0 rfl 7 (by decide) (List.mem_of_getElem? (i := 1) rfl) dX0_empty_7 0 rfl (.int (M 0 7)) rfl ?_
  refine g_iconst C (pc := 10) dX0_empty_10 cI_4 ?_
  refine g_idiv C (pc := 11) dX0_empty_11 nz_4 ?_
  refine g_isub C (pc := 12) dX0_empty_12 ?_
  refine g_iconst C (pc := 13) dX0_empty_13 cI_1 ?_
  refine g_isub C (pc := 14) dX0_empty_14 ?_
  refine g_max C (pc := 15) (List.mem_of_getElem? (i := 2) rfl) (List.mem_of_getElem? (i := 3) rfl) (List.mem_of_getElem? (i := 4) rfl) (List.mem_of_getElem? (i := 5) rfl) ⟨Nat.le_of_ble_eq_true rfl, Nat.le_of_ble_eq_true rfl, Nat.zero_le _, Nat.zero_le _⟩ dX0_empty_15 ?_
  refine g_put C (pc := 18) tyX0 tyX0_ok nmX0 inX0_empty_0 rfl 7 (by decide) rfl (List.mem_of_getElem? (i := 1) rfl) dX0_empty_18 rfl rfl 0 rfl (Nat.le_of_ble_eq_true rfl) (birdW cA h) (sa M 0 (up (M 0) 7 (if 0 < ((M 0 7 - (M 0 7 / 4)) - 1) then ((M 0 7 - (M 0 7 / 4)) - 1) else 0))) rfl (fun M1 eM1 => ?_)
  have hz1 : (Zbird M1) := by rw [eM1]; exact hz
  refine g_aload_n C (pc := 21) dX0_empty_21 0 rfl ?_
  refine g_get C (pc := 22) inX0_empty_0 rfl 7 (by decide) (List.mem_of_getElem? (i := 1) rfl) dX0_empty_22 0 rfl (.int (M1 0 7)) rfl ?_
  refine g_iconst C (pc := 25) dX0_empty_25 cI_5 ?_
  refine g_aload_n C (pc := 26) dX0_empty_26 0 rfl ?_
  refine g_get C (pc := 27) inX0_empty_0 rfl 0 (by decide) (List.mem_of_getElem? (i := 6) rfl) dX0_empty_27 0 rfl (.ref (h 1)) rfl ?_
  refine g_iconst C (pc := 30) dX0_empty_30 cI_2 ?_
  refine g_Vpi C (pc := 31) (As := [.int 2]) (kX1_at l D cA T 15 (sh 1 h) (sh 1 M1) 2 hz1.1) (v_bird_cells_1 cA h M1) gX0_empty_X1_at rfl ⟨rfl, rfl⟩ ⟨Nat.le_of_ble_eq_true rfl, Nat.le_of_ble_eq_true rfl⟩ ⟨Nat.zero_le _, Nat.zero_le _⟩ rfl (Nat.le_of_ble_eq_true rfl) hdV_X1_at 0 rfl rfl rfl dX0_empty_31 ?_
  refine g_imul C (pc := 34) dX0_empty_34 ?_
  refine g_icmp_gt C (pc := 35) 43 dX0_empty_35 (by decide) (fun c2 => ?_) (fun c2 => ?_)
  · exact r_ev C rfl dX0_empty_43 hz1
  · refine g_aload_n C (pc := 38) dX0_empty_38 0 rfl ?_
    refine g_iconst C (pc := 39) dX0_empty_39 cI_1 ?_
    refine g_Vev C (pc := 40) (As := [.int 1]) (kX0_turn l D cA T h M1 1 hz1) (v_id (birdW cA h) M1 12 (fun _ => rfl) rfl) gX0_empty_X0_turn rfl ⟨rfl, rfl⟩ ⟨Nat.le_of_ble_eq_true rfl, Nat.le_of_ble_eq_true rfl⟩ ⟨Nat.zero_le _, Nat.zero_le _⟩ rfl (Nat.le_of_ble_eq_true rfl) hdV_X0_turn 0 rfl rfl rfl dX0_empty_40 (fun M3 eM3 hz_M3 => ?_)
    have hz3 := hz_M3
    exact r_ev C rfl dX0_empty_43 hz3
theorem inX0_riseNoMore_0 : ∀ w ∈ u_ws RX0 TX0 18, w ∈ wsX0_riseNoMore := by decide +kernel
noncomputable def xX0_riseNoMore (M : St) (p0 : Int32) : St := if M 0 7 = p0 then (nm (xX0_turn M 4) fun M7 => M7) else (if M 0 17 < 50 then (M) else (nm (if M 0 6 = 0 then (if (xX1_at 15 (sh 1 M) 14) ≤ M 0 3 then (5) else (6)) else (5) : Int32) fun v5 => nm (xX0_turn M v5) fun M6 => M6))
set_option maxHeartbeats 4000000 in
set_option maxRecDepth 100000 in
theorem kX0_riseNoMore (l : Launch) (D : va_G) (cA : ClassId) (T : Nat × Nat × Nat) (h : Nat → Nat) (M : St) (p0 : Int32) (hz : (Zbird M)) : ∀ sz : Nat, Met l yX0_riseNoMore wsX0_riseNoMore { frames := 1, cells := 0, slots := 0, locals := 21 } (va_Pc [.ref (h 0), .int p0] (PreW D cA T (birdW cA h M) sz)) (va_Qv (fun u => u = (xX0_riseNoMore M p0) ∧ (Zbird) u) (fun u => PostW D cA (va_A (birdW cA h M) sz) (birdW cA h u)) (va_A (birdW cA h M) sz)) 0 0 (va_A (birdW cA h M) sz) := by
  refine m_ev (Wf := birdW cA h) (inv := (Zbird)) (cc := cX0_riseNoMore) (maxL := 2) (own := RX0) (by decide) rfl rfl (Nat.le_of_ble_eq_true rfl) (fun {p e s m args below meth c} A C X => ?_)
  show G p l e { frames := 1, cells := 0, slots := 0, locals := 21 } s m args below meth c 0 0 D A (Qev below D cA A args s 0 0 (birdW cA h) (Zbird) X) 2 X (xX0_riseNoMore M p0) (birdW cA h M) 0 [(0, .ref (h 0)), (1, .int p0)] []
  unfold xX0_riseNoMore
  refine g_aload_n C (pc := 0) dX0_riseNoMore_0 0 rfl ?_
  refine g_get C (pc := 1) inX0_riseNoMore_0 rfl 7 (by decide) (List.mem_of_getElem? (i := 1) rfl) dX0_riseNoMore_1 0 rfl (.int (M 0 7)) rfl ?_
  refine g_iload_n C (pc := 4) dX0_riseNoMore_4 1 rfl ?_
  refine g_icmp_ne C (pc := 5) 16 dX0_riseNoMore_5 (by decide) (fun c1 => ?_) (fun c1 => ?_)
  · refine g_aload_n C (pc := 16) dX0_riseNoMore_16 0 rfl ?_
    refine g_get C (pc := 17) inX0_riseNoMore_0 rfl 17 (by decide) (List.mem_of_getElem? (i := 2) rfl) dX0_riseNoMore_17 0 rfl (.int (M 0 17)) rfl ?_
    refine g_bipush C (pc := 20) dX0_riseNoMore_20 cB_50 ?_
    refine g_icmp_lt C (pc := 22) 58 dX0_riseNoMore_22 (by decide) (fun c2 => ?_) (fun c2 => ?_)
    · exact r_ev C rfl dX0_riseNoMore_58 hz
    · refine g_aload_n C (pc := 25) dX0_riseNoMore_25 0 rfl ?_
      refine g_aload_n C (pc := 26) dX0_riseNoMore_26 0 rfl ?_
      refine g_get C (pc := 27) inX0_riseNoMore_0 rfl 6 (by decide) (List.mem_of_getElem? (i := 3) rfl) dX0_riseNoMore_27 0 rfl (.int (M 0 6)) rfl ?_
      refine g_join (α := Int32) (fun v5 => []) (fun v5 => [.int v5, .ref (h 0)]) 55 (fun v5 ev5 => ?_) (fun Jv5 => ?_)
      · refine g_Vev C (pc := 55) (As := [.int v5]) (kX0_turn l D cA T h M v5 hz) (v_id (birdW cA h) M 12 (fun _ => rfl) rfl) gX0_riseNoMore_X0_turn rfl ⟨rfl, rfl⟩ ⟨Nat.le_of_ble_eq_true rfl, Nat.le_of_ble_eq_true rfl⟩ ⟨Nat.zero_le _, Nat.zero_le _⟩ rfl (Nat.le_of_ble_eq_true rfl) hdV_X0_turn 0 rfl rfl rfl dX0_riseNoMore_55 (fun M6 eM6 hz_M6 => ?_)
        have hz6 := hz_M6
        exact r_ev C rfl dX0_riseNoMore_58 hz6
      · refine g_if_ne0 C (pc := 30) 54 dX0_riseNoMore_30 (by decide) (fun c3 => ?_) (fun c3 => ?_)
        · refine g_iconst C (pc := 54) dX0_riseNoMore_54 cI_5 ?_
          refine g_sub [] rfl ?_
          exact g_lf (if_neg c3) (Jv5 _ (Eq.symm (if_neg c3)))
        · refine g_aload_n C (pc := 33) dX0_riseNoMore_33 0 rfl ?_
          refine g_get C (pc := 34) inX0_riseNoMore_0 rfl 3 (by decide) (List.mem_of_getElem? (i := 4) rfl) dX0_riseNoMore_34 0 rfl (.int (M 0 3)) rfl ?_
          refine g_aload_n C (pc := 37) dX0_riseNoMore_37 0 rfl ?_
          refine g_get C (pc := 38) inX0_riseNoMore_0 rfl 0 (by decide) (List.mem_of_getElem? (i := 5) rfl) dX0_riseNoMore_38 0 rfl (.ref (h 1)) rfl ?_
          refine g_bipush C (pc := 41) dX0_riseNoMore_41 cB_14 ?_
          refine g_Vpi C (pc := 43) (As := [.int 14]) (kX1_at l D cA T 15 (sh 1 h) (sh 1 M) 14 hz.1) (v_bird_cells_1 cA h M) gX0_riseNoMore_X1_at rfl ⟨rfl, rfl⟩ ⟨Nat.le_of_ble_eq_true rfl, Nat.le_of_ble_eq_true rfl⟩ ⟨Nat.zero_le _, Nat.zero_le _⟩ rfl (Nat.le_of_ble_eq_true rfl) hdV_X1_at 0 rfl rfl rfl dX0_riseNoMore_43 ?_
          refine g_icmp_ge0 C (pc := 46) 54 dX0_riseNoMore_46 (by decide) (fun c4 => ?_) (fun c4 => ?_)
          · refine g_iconst C (pc := 54) dX0_riseNoMore_54 cI_5 ?_
            refine g_sub [] rfl ?_
            exact g_lf ((if_pos c3).trans (if_pos c4)) (Jv5 _ (Eq.symm ((if_pos c3).trans (if_pos c4))))
          · refine g_bipush C (pc := 49) dX0_riseNoMore_49 cB_6 ?_
            refine g_goto C (pc := 51) 55 dX0_riseNoMore_51 (by decide) ?_
            refine g_sub [] rfl ?_
            exact g_lf ((if_pos c3).trans (if_neg c4)) (Jv5 _ (Eq.symm ((if_pos c3).trans (if_neg c4))))
  · refine g_aload_n C (pc := 8) dX0_riseNoMore_8 0 rfl ?_
    refine g_iconst C (pc := 9) dX0_riseNoMore_9 cI_4 ?_
    refine g_Vev C (pc := 10) (As := [.int 4]) (kX0_turn l D cA T h M 4 hz) (v_id (birdW cA h) M 12 (fun _ => rfl) rfl) gX0_riseNoMore_X0_turn rfl ⟨rfl, rfl⟩ ⟨Nat.le_of_ble_eq_true rfl, Nat.le_of_ble_eq_true rfl⟩ ⟨Nat.zero_le _, Nat.zero_le _⟩ rfl (Nat.le_of_ble_eq_true rfl) hdV_X0_turn 0 rfl rfl rfl dX0_riseNoMore_10 (fun M7 eM7 hz_M7 => ?_)
    have hz7 := hz_M7
    refine g_goto C (pc := 13) 58 dX0_riseNoMore_13 (by decide) ?_
    exact r_ev C rfl dX0_riseNoMore_58 hz7
theorem inX0_swingOn_0 : ∀ w ∈ u_ws RX0 TX0 18, w ∈ wsX0_swingOn := by decide +kernel
noncomputable def xX0_swingOn (M : St) : St := nm (if (M 0 13 - M 0 13 / 3 * 3) = 0 then (nm (sa M 0 (up (M 0) 14 ((M 0 14 / 8) * 7))) fun M6 => M6) else (M) : St) fun w1 => nm (w1) fun M2 => if 10 ≤ M2 0 14 then (M2) else (nm (xX0_turn M2 0) fun M4 => M4)
set_option maxHeartbeats 4000000 in
set_option maxRecDepth 100000 in
theorem kX0_swingOn (l : Launch) (D : va_G) (cA : ClassId) (T : Nat × Nat × Nat) (h : Nat → Nat) (M : St) (hz : (Zbird M)) : ∀ sz : Nat, Met l yX0_swingOn wsX0_swingOn { frames := 1, cells := 0, slots := 0, locals := 21 } (va_Pc [.ref (h 0)] (PreW D cA T (birdW cA h M) sz)) (va_Qv (fun u => u = (xX0_swingOn M) ∧ (Zbird) u) (fun u => PostW D cA (va_A (birdW cA h M) sz) (birdW cA h u)) (va_A (birdW cA h M) sz)) 0 0 (va_A (birdW cA h M) sz) := by
  refine m_ev (Wf := birdW cA h) (inv := (Zbird)) (cc := cX0_swingOn) (maxL := 1) (own := RX0) (by decide) rfl rfl (Nat.le_of_ble_eq_true rfl) (fun {p e s m args below meth c} A C X => ?_)
  show G p l e { frames := 1, cells := 0, slots := 0, locals := 21 } s m args below meth c 0 0 D A (Qev below D cA A args s 0 0 (birdW cA h) (Zbird) X) 1 X (xX0_swingOn M) (birdW cA h M) 0 [(0, .ref (h 0))] []
  unfold xX0_swingOn
  refine g_aload_n C (pc := 0) dX0_swingOn_0 0 rfl ?_
  refine g_get C (pc := 1) inX0_swingOn_0 rfl 13 (by decide) (List.mem_of_getElem? (i := 1) rfl) dX0_swingOn_1 0 rfl (.int (M 0 13)) rfl ?_
  refine g_iconst C (pc := 4) dX0_swingOn_4 cI_3 ?_
  refine g_irem C (pc := 5) dX0_swingOn_5 nz_3 ?_
  refine g_inner (σ := St) (fun w1 : St => (birdW cA h w1)) (fun w1 => [(0, .ref (h 0))]) 23 (fun w1 : St => (Zbird w1)) (fun w1 ew1 hw1 => ?_) (fun X1 Jw1 => ?_)
  · refine g_nmW (birdW cA h) (fun M2 eM2 => ?_)
    have hz2 : (Zbird M2) := by rw [eM2]; exact hw1
    refine g_aload_n C (pc := 23) dX0_swingOn_23 0 rfl ?_
    refine g_get C (pc := 24) inX0_swingOn_0 rfl 14 (by decide) (List.mem_of_getElem? (i := 2) rfl) dX0_swingOn_24 0 rfl (.int (M2 0 14)) rfl ?_
    refine g_bipush C (pc := 27) dX0_swingOn_27 cB_10 ?_
    refine g_icmp_ge C (pc := 29) 37 dX0_swingOn_29 (by decide) (fun c3 => ?_) (fun c3 => ?_)
    · exact r_ev C rfl dX0_swingOn_37 hz2
    · refine g_aload_n C (pc := 32) dX0_swingOn_32 0 rfl ?_
      refine g_iconst C (pc := 33) dX0_swingOn_33 cI_0 ?_
      refine g_Vev C (pc := 34) (As := [.int 0]) (kX0_turn l D cA T h M2 0 hz2) (v_id (birdW cA h) M2 12 (fun _ => rfl) rfl) gX0_swingOn_X0_turn rfl ⟨rfl, rfl⟩ ⟨Nat.le_of_ble_eq_true rfl, Nat.le_of_ble_eq_true rfl⟩ ⟨Nat.zero_le _, Nat.zero_le _⟩ rfl (Nat.le_of_ble_eq_true rfl) hdV_X0_turn 0 rfl rfl rfl dX0_swingOn_34 (fun M4 eM4 hz_M4 => ?_)
      have hz4 := hz_M4
      exact r_ev C rfl dX0_swingOn_37 hz4
  · refine g_if_ne C (pc := 6) 23 dX0_swingOn_6 (by decide) (fun c5 => ?_) (fun c5 => ?_)
    · refine g_sub [0] rfl ?_
      exact Jw1 M hz
    · refine g_aload_n C (pc := 9) dX0_swingOn_9 0 rfl ?_
      refine g_aload_n C (pc := 10) dX0_swingOn_10 0 rfl ?_
      refine g_get C (pc := 11) inX0_swingOn_0 rfl 14 (by decide) (List.mem_of_getElem? (i := 2) rfl) dX0_swingOn_11 0 rfl (.int (M 0 14)) rfl ?_
      refine g_bipush C (pc := 14) dX0_swingOn_14 cB_8 ?_
      refine g_idiv C (pc := 16) dX0_swingOn_16 nz_8 ?_
      refine g_bipush C (pc := 17) dX0_swingOn_17 cB_7 ?_
      refine g_imul C (pc := 19) dX0_swingOn_19 ?_
      refine g_put C (pc := 20) tyX0 tyX0_ok nmX0 inX0_swingOn_0 rfl 14 (by decide) rfl (List.mem_of_getElem? (i := 2) rfl) dX0_swingOn_20 rfl rfl 0 rfl (Nat.le_of_ble_eq_true rfl) (birdW cA h) (sa M 0 (up (M 0) 14 ((M 0 14 / 8) * 7))) rfl (fun M6 eM6 => ?_)
      have hz6 : (Zbird M6) := by rw [eM6]; exact hz
      refine g_sub [0] rfl ?_
      exact Jw1 M6 hz6
theorem inX0_rise_0 : ∀ w ∈ u_ws RX0 TX0 18, w ∈ wsX0_rise := by decide +kernel
noncomputable def xX0_rise (M : St) : St := nm ((100 * (xX1_at 15 (sh 1 M) 2)) : Int32) fun x1 => nm (sa M 0 (up (M 0) 7 (if 0 < (if (M 0 7 + (M 0 15 / 2)) < x1 then (M 0 7 + (M 0 15 / 2)) else x1) then (if (M 0 7 + (M 0 15 / 2)) < x1 then (M 0 7 + (M 0 15 / 2)) else x1) else 0))) fun M2 => nm (if 0 < M2 0 15 then (0) else ((M2 0 17 + 1)) : Int32) fun v4 => nm (sa M2 0 (up (M2 0) 17 v4)) fun M5 => if M5 0 7 < (xX0_height M5) then (if M5 0 12 = 0 then (nm (xX0_riseNoMore M5 x1) fun M8 => M8) else (if M5 0 12 = 1 then (nm (xX0_swingOn M5) fun M10 => M10) else (if M5 0 15 ≤ 0 then (M5) else (if x1 ≤ M5 0 7 then (M5) else (nm (xX0_turn M5 0) fun M13 => M13))))) else (nm (xX0_turn M5 2) fun M14 => M14)
set_option maxHeartbeats 4000000 in
set_option maxRecDepth 100000 in
theorem kX0_rise (l : Launch) (D : va_G) (cA : ClassId) (T : Nat × Nat × Nat) (h : Nat → Nat) (M : St) (hz : (Zbird M)) : ∀ sz : Nat, Met l yX0_rise wsX0_rise { frames := 2, cells := 0, slots := 0, locals := 42 } (va_Pc [.ref (h 0)] (PreW D cA T (birdW cA h M) sz)) (va_Qv (fun u => u = (xX0_rise M) ∧ (Zbird) u) (fun u => PostW D cA (va_A (birdW cA h M) sz) (birdW cA h u)) (va_A (birdW cA h M) sz)) 0 0 (va_A (birdW cA h M) sz) := by
  refine m_ev (Wf := birdW cA h) (inv := (Zbird)) (cc := cX0_rise) (maxL := 2) (own := RX0) (by decide) rfl rfl (Nat.le_of_ble_eq_true rfl) (fun {p e s m args below meth c} A C X => ?_)
  show G p l e { frames := 2, cells := 0, slots := 0, locals := 42 } s m args below meth c 0 0 D A (Qev below D cA A args s 0 0 (birdW cA h) (Zbird) X) 2 X (xX0_rise M) (birdW cA h M) 0 [(0, .ref (h 0))] []
  unfold xX0_rise
  refine g_bipush C (pc := 0) dX0_rise_0 cB_100 ?_
  refine g_aload_n C (pc := 2) dX0_rise_2 0 rfl ?_
  refine g_get C (pc := 3) inX0_rise_0 rfl 0 (by decide) (List.mem_of_getElem? (i := 1) rfl) dX0_rise_3 0 rfl (.ref (h 1)) rfl ?_
  refine g_iconst C (pc := 6) dX0_rise_6 cI_2 ?_
  refine g_Vpi C (pc := 7) (As := [.int 2]) (kX1_at l D cA T 15 (sh 1 h) (sh 1 M) 2 hz.1) (v_bird_cells_1 cA h M) gX0_rise_X1_at rfl ⟨rfl, rfl⟩ ⟨Nat.le_of_ble_eq_true rfl, Nat.le_of_ble_eq_true rfl⟩ ⟨Nat.zero_le _, Nat.zero_le _⟩ rfl (Nat.le_of_ble_eq_true rfl) hdV_X1_at 0 rfl rfl rfl dX0_rise_7 ?_
  refine g_imul C (pc := 10) dX0_rise_10 ?_
  refine g_nmi (fun x1 ex1 => ?_)
  refine g_istore_n C (pc := 11) [(1, .int x1), (0, .ref (h 0))] dX0_rise_11 (by decide) rfl ?_
  refine g_aload_n C (pc := 12) dX0_rise_12 1 rfl ?_
  refine g_iconst C (pc := 13) dX0_rise_13 cI_0 ?_
  refine g_iload_n C (pc := 14) dX0_rise_14 0 rfl ?_
  refine g_aload_n C (pc := 15) dX0_rise_15 1 rfl ?_
  refine g_get C (pc := 16) inX0_rise_0 rfl 7 (by decide) (List.mem_of_getElem? (i := 2) rfl) dX0_rise_16 0 rfl (.int (M 0 7)) rfl ?_
  refine g_aload_n C (pc := 19) dX0_rise_19 1 rfl ?_
  refine g_get C (pc := 20) inX0_rise_0 rfl 15 (by decide) (List.mem_of_getElem? (i := 3) rfl) dX0_rise_20 0 rfl (.int (M 0 15)) rfl ?_
  refine g_iconst C (pc := 23) dX0_rise_23 cI_2 ?_
  refine g_idiv C (pc := 24) dX0_rise_24 nz_2 ?_
  refine g_iadd C (pc := 25) dX0_rise_25 ?_
  refine g_min C (pc := 26) (List.mem_of_getElem? (i := 4) rfl) (List.mem_of_getElem? (i := 5) rfl) (List.mem_of_getElem? (i := 6) rfl) (List.mem_of_getElem? (i := 7) rfl) ⟨Nat.le_of_ble_eq_true rfl, Nat.le_of_ble_eq_true rfl, Nat.zero_le _, Nat.zero_le _⟩ dX0_rise_26 ?_
  refine g_max C (pc := 29) (List.mem_of_getElem? (i := 8) rfl) (List.mem_of_getElem? (i := 9) rfl) (List.mem_of_getElem? (i := 6) rfl) (List.mem_of_getElem? (i := 10) rfl) ⟨Nat.le_of_ble_eq_true rfl, Nat.le_of_ble_eq_true rfl, Nat.zero_le _, Nat.zero_le _⟩ dX0_rise_29 ?_
  refine g_put C (pc := 32) tyX0 tyX0_ok nmX0 inX0_rise_0 rfl 7 (by decide) rfl (List.mem_of_getElem? (i := 2) rfl) dX0_rise_32 rfl rfl 0 rfl (Nat.le_of_ble_eq_true rfl) (birdW cA h) (sa M 0 (up (M 0) 7 (if 0 < (if (M 0 7 + (M 0 15 / 2)) < x1 then (M 0 7 + (M 0 15 / 2)) else x1) then (if (M 0 7 + (M 0 15 / 2)) < x1 then (M 0 7 + (M 0 15 / 2)) else x1) else 0))) rfl (fun M2 eM2 => ?_)
  have hz2 : (Zbird M2) := by rw [eM2]; exact hz
  refine g_aload_n C (pc := 35) dX0_rise_35 1 rfl ?_
  refine g_aload_n C (pc := 36) dX0_rise_36 1 rfl ?_
  refine g_get C (pc := 37) inX0_rise_0 rfl 15 (by decide) (List.mem_of_getElem? (i := 3) rfl) dX0_rise_37 0 rfl (.int (M2 0 15)) rfl ?_
  refine g_join (α := Int32) (fun v4 => [(0, .ref (h 0)), (1, .int x1)]) (fun v4 => [.int v4, .ref (h 0)]) 53 (fun v4 ev4 => ?_) (fun Jv4 => ?_)
  · refine g_put C (pc := 53) tyX0 tyX0_ok nmX0 inX0_rise_0 rfl 17 (by decide) rfl (List.mem_of_getElem? (i := 11) rfl) dX0_rise_53 rfl rfl 0 rfl (Nat.le_of_ble_eq_true rfl) (birdW cA h) (sa M2 0 (up (M2 0) 17 v4)) rfl (fun M5 eM5 => ?_)
    have hz5 : (Zbird M5) := by rw [eM5]; exact hz2
    refine g_aload_n C (pc := 56) dX0_rise_56 0 rfl ?_
    refine g_get C (pc := 57) inX0_rise_0 rfl 7 (by decide) (List.mem_of_getElem? (i := 2) rfl) dX0_rise_57 0 rfl (.int (M5 0 7)) rfl ?_
    refine g_aload_n C (pc := 60) dX0_rise_60 0 rfl ?_
    refine g_Vpi C (pc := 61) (As := []) (kX0_height l D cA T h M5 hz5) (v_id (birdW cA h) M5 12 (fun _ => rfl) rfl) gX0_rise_X0_height rfl ⟨rfl, rfl⟩ ⟨Nat.le_of_ble_eq_true rfl, Nat.le_of_ble_eq_true rfl⟩ ⟨Nat.zero_le _, Nat.zero_le _⟩ rfl (Nat.le_of_ble_eq_true rfl) hdV_X0_height 0 rfl rfl rfl dX0_rise_61 ?_
    refine g_icmp_lt C (pc := 64) 73 dX0_rise_64 (by decide) (fun c6 => ?_) (fun c6 => ?_)
    · refine g_aload_n C (pc := 73) dX0_rise_73 0 rfl ?_
      refine g_get C (pc := 74) inX0_rise_0 rfl 12 (by decide) (List.mem_of_getElem? (i := 12) rfl) dX0_rise_74 0 rfl (.int (M5 0 12)) rfl ?_
      refine g_case (M5 0 12) 0 (fun c7 => ?_) (fun c7 => ?_)
      · refine g_lkp C (pc := 77) (off := 27) 104 dX0_rise_77 (by decide) (by rw [c7] <;> rfl) (by decide) ?_
        refine g_aload_n C (pc := 104) dX0_rise_104 0 rfl ?_
        refine g_iload_n C (pc := 105) dX0_rise_105 1 rfl ?_
        refine g_Vev C (pc := 106) (As := [.int x1]) (kX0_riseNoMore l D cA T h M5 x1 hz5) (v_id (birdW cA h) M5 12 (fun _ => rfl) rfl) gX0_rise_X0_riseNoMore rfl ⟨rfl, rfl⟩ ⟨Nat.le_of_ble_eq_true rfl, Nat.le_of_ble_eq_true rfl⟩ ⟨Nat.zero_le _, Nat.zero_le _⟩ rfl (Nat.le_of_ble_eq_true rfl) hdV_X0_riseNoMore 0 rfl rfl rfl dX0_rise_106 (fun M8 eM8 hz_M8 => ?_)
        have hz8 := hz_M8
        refine g_goto C (pc := 109) 139 dX0_rise_109 (by decide) ?_
        exact r_ev C rfl dX0_rise_139 hz8
      · refine g_case (M5 0 12) 1 (fun c9 => ?_) (fun c9 => ?_)
        · refine g_lkp C (pc := 77) (off := 35) 112 dX0_rise_77 (by decide) (by rw [c9] <;> rfl) (by decide) ?_
          refine g_aload_n C (pc := 112) dX0_rise_112 0 rfl ?_
          refine g_Vev C (pc := 113) (As := []) (kX0_swingOn l D cA T h M5 hz5) (v_id (birdW cA h) M5 12 (fun _ => rfl) rfl) gX0_rise_X0_swingOn rfl ⟨rfl, rfl⟩ ⟨Nat.le_of_ble_eq_true rfl, Nat.le_of_ble_eq_true rfl⟩ ⟨Nat.zero_le _, Nat.zero_le _⟩ rfl (Nat.le_of_ble_eq_true rfl) hdV_X0_swingOn 0 rfl rfl rfl dX0_rise_113 (fun M10 eM10 hz_M10 => ?_)
          have hz10 := hz_M10
          refine g_goto C (pc := 116) 139 dX0_rise_116 (by decide) ?_
          exact r_ev C rfl dX0_rise_139 hz10
        · refine g_lkp C (pc := 77) (off := 42) 119 dX0_rise_77 (by decide) (by show Op.lookupswitch.offset [(0, 27), (1, 35)] 42 (Int32.toInt (M5 0 12)) = 42; rw [lv_osw (a := 0) c7 rfl]; rw [lv_osw (a := 1) c9 rfl]; rfl) (by decide) ?_
          refine g_aload_n C (pc := 119) dX0_rise_119 0 rfl ?_
          refine g_get C (pc := 120) inX0_rise_0 rfl 15 (by decide) (List.mem_of_getElem? (i := 3) rfl) dX0_rise_120 0 rfl (.int (M5 0 15)) rfl ?_
          refine g_if_le C (pc := 123) 139 dX0_rise_123 (by decide) (fun c11 => ?_) (fun c11 => ?_)
          · exact r_ev C rfl dX0_rise_139 hz5
          · refine g_aload_n C (pc := 126) dX0_rise_126 0 rfl ?_
            refine g_get C (pc := 127) inX0_rise_0 rfl 7 (by decide) (List.mem_of_getElem? (i := 2) rfl) dX0_rise_127 0 rfl (.int (M5 0 7)) rfl ?_
            refine g_iload_n C (pc := 130) dX0_rise_130 1 rfl ?_
            refine g_icmp_ge C (pc := 131) 139 dX0_rise_131 (by decide) (fun c12 => ?_) (fun c12 => ?_)
            · exact r_ev C rfl dX0_rise_139 hz5
            · refine g_aload_n C (pc := 134) dX0_rise_134 0 rfl ?_
              refine g_iconst C (pc := 135) dX0_rise_135 cI_0 ?_
              refine g_Vev C (pc := 136) (As := [.int 0]) (kX0_turn l D cA T h M5 0 hz5) (v_id (birdW cA h) M5 12 (fun _ => rfl) rfl) gX0_rise_X0_turn rfl ⟨rfl, rfl⟩ ⟨Nat.le_of_ble_eq_true rfl, Nat.le_of_ble_eq_true rfl⟩ ⟨Nat.zero_le _, Nat.zero_le _⟩ rfl (Nat.le_of_ble_eq_true rfl) hdV_X0_turn 0 rfl rfl rfl dX0_rise_136 (fun M13 eM13 hz_M13 => ?_)
              have hz13 := hz_M13
              exact r_ev C rfl dX0_rise_139 hz13
    · refine g_aload_n C (pc := 67) dX0_rise_67 0 rfl ?_
      refine g_iconst C (pc := 68) dX0_rise_68 cI_2 ?_
      refine g_Vev C (pc := 69) (As := [.int 2]) (kX0_turn l D cA T h M5 2 hz5) (v_id (birdW cA h) M5 12 (fun _ => rfl) rfl) gX0_rise_X0_turn rfl ⟨rfl, rfl⟩ ⟨Nat.le_of_ble_eq_true rfl, Nat.le_of_ble_eq_true rfl⟩ ⟨Nat.zero_le _, Nat.zero_le _⟩ rfl (Nat.le_of_ble_eq_true rfl) hdV_X0_turn 0 rfl rfl rfl dX0_rise_69 (fun M14 eM14 hz_M14 => ?_)
      have hz14 := hz_M14
      exact r_ev C rfl dX0_rise_72 hz14
  · refine g_if_gt0 C (pc := 40) 52 dX0_rise_40 (by decide) (fun c3 => ?_) (fun c3 => ?_)
    · refine g_iconst C (pc := 52) dX0_rise_52 cI_0 ?_
      refine g_sub [1, 0] rfl ?_
      exact g_lf (if_pos c3) (Jv4 _ (Eq.symm (if_pos c3)))
    · refine g_aload_n C (pc := 43) dX0_rise_43 1 rfl ?_
      refine g_get C (pc := 44) inX0_rise_0 rfl 17 (by decide) (List.mem_of_getElem? (i := 11) rfl) dX0_rise_44 0 rfl (.int (M2 0 17)) rfl ?_
      refine g_iconst C (pc := 47) dX0_rise_47 cI_1 ?_
      refine g_iadd C (pc := 48) dX0_rise_48 ?_
      refine g_goto C (pc := 49) 53 dX0_rise_49 (by decide) ?_
      refine g_sub [1, 0] rfl ?_
      exact g_lf (if_neg c3) (Jv4 _ (Eq.symm (if_neg c3)))
theorem inX0_tenth_0 : ∀ w ∈ u_ws RX0 TX0 18, w ∈ wsX0_tenth := by decide +kernel
noncomputable def xX0_tenth (M : St) : St := nm ((xX0_airOf M 11) : Int32) fun x1 => nm ((xX0_goingOff M (xX0_airOf M 8) (xX0_airOf M 9)) : Int32) fun x2 => nm (sa M 0 (up (M 0) 6 (M 0 6 - x2))) fun M3 => nm (sa M3 0 (up (M3 0) 8 (M3 0 8 + x2))) fun M4 => nm (sa M4 0 (up (M4 0) 9 (M4 0 9 + x2))) fun M5 => nm (if (xX1_at 15 (sh 1 M5) 7) = 1 then (2) else (1) : Int32) fun v7 => nm (((xX0_airOf M5 10) * v7) : Int32) fun x8 => nm (sa M5 0 (up (M5 0) 4 (M5 0 4 + (((x1 - M5 0 4) / 20) - (x2 / 10))))) fun M9 => nm (sa M9 0 (up (M9 0) 5 (M9 0 5 + (((x1 - M9 0 5) / 20) + x8)))) fun M10 => nm (sa M10 0 (up (M10 0) 15 (xX0_pressure M10))) fun M11 => nm (sa M11 0 (up (M11 0) 13 (M11 0 13 + 1))) fun M12 => nm (if M12 0 12 = 2 then (nm (xX0_tip M12) fun M17 => M17) else (if M12 0 12 = 3 then (nm (xX0_empty M12) fun M19 => M19) else (nm (xX0_rise M12) fun M20 => M20)) : St) fun w13 => nm (w13) fun M14 => nm (sa M14 0 (up (M14 0) 10 (M14 0 10 + 1))) fun M15 => M15
set_option maxHeartbeats 4000000 in
set_option maxRecDepth 100000 in
theorem kX0_tenth (l : Launch) (D : va_G) (cA : ClassId) (T : Nat × Nat × Nat) (h : Nat → Nat) (M : St) (hz : (Zbird M)) : ∀ sz : Nat, Met l yX0_tenth wsX0_tenth { frames := 3, cells := 0, slots := 0, locals := 69 } (va_Pc [.ref (h 0)] (PreW D cA T (birdW cA h M) sz)) (va_Qv (fun u => u = (xX0_tenth M) ∧ (Zbird) u) (fun u => PostW D cA (va_A (birdW cA h M) sz) (birdW cA h u)) (va_A (birdW cA h M) sz)) 0 0 (va_A (birdW cA h M) sz) := by
  refine m_ev (Wf := birdW cA h) (inv := (Zbird)) (cc := cX0_tenth) (maxL := 4) (own := RX0) (by decide) rfl rfl (Nat.le_of_ble_eq_true rfl) (fun {p e s m args below meth c} A C X => ?_)
  show G p l e { frames := 3, cells := 0, slots := 0, locals := 69 } s m args below meth c 0 0 D A (Qev below D cA A args s 0 0 (birdW cA h) (Zbird) X) 4 X (xX0_tenth M) (birdW cA h M) 0 [(0, .ref (h 0))] []
  unfold xX0_tenth
  refine g_aload_n C (pc := 0) dX0_tenth_0 0 rfl ?_
  refine g_bipush C (pc := 1) dX0_tenth_1 cB_11 ?_
  refine g_Vpi C (pc := 3) (As := [.int 11]) (kX0_airOf l D cA T h M 11 hz) (v_id (birdW cA h) M 12 (fun _ => rfl) rfl) gX0_tenth_X0_airOf rfl ⟨rfl, rfl⟩ ⟨Nat.le_of_ble_eq_true rfl, Nat.le_of_ble_eq_true rfl⟩ ⟨Nat.zero_le _, Nat.zero_le _⟩ rfl (Nat.le_of_ble_eq_true rfl) hdV_X0_airOf 0 rfl rfl rfl dX0_tenth_3 ?_
  refine g_nmi (fun x1 ex1 => ?_)
  refine g_istore_n C (pc := 6) [(1, .int x1), (0, .ref (h 0))] dX0_tenth_6 (by decide) rfl ?_
  refine g_aload_n C (pc := 7) dX0_tenth_7 1 rfl ?_
  refine g_aload_n C (pc := 8) dX0_tenth_8 1 rfl ?_
  refine g_bipush C (pc := 9) dX0_tenth_9 cB_8 ?_
  refine g_Vpi C (pc := 11) (As := [.int 8]) (kX0_airOf l D cA T h M 8 hz) (v_id (birdW cA h) M 12 (fun _ => rfl) rfl) gX0_tenth_X0_airOf rfl ⟨rfl, rfl⟩ ⟨Nat.le_of_ble_eq_true rfl, Nat.le_of_ble_eq_true rfl⟩ ⟨Nat.zero_le _, Nat.zero_le _⟩ rfl (Nat.le_of_ble_eq_true rfl) hdV_X0_airOf 0 rfl rfl rfl dX0_tenth_11 ?_
  refine g_aload_n C (pc := 14) dX0_tenth_14 1 rfl ?_
  refine g_bipush C (pc := 15) dX0_tenth_15 cB_9 ?_
  refine g_Vpi C (pc := 17) (As := [.int 9]) (kX0_airOf l D cA T h M 9 hz) (v_id (birdW cA h) M 12 (fun _ => rfl) rfl) gX0_tenth_X0_airOf rfl ⟨rfl, rfl⟩ ⟨Nat.le_of_ble_eq_true rfl, Nat.le_of_ble_eq_true rfl⟩ ⟨Nat.zero_le _, Nat.zero_le _⟩ rfl (Nat.le_of_ble_eq_true rfl) hdV_X0_airOf 0 rfl rfl rfl dX0_tenth_17 ?_
  refine g_Vpi C (pc := 20) (As := [.int (xX0_airOf M 8), .int (xX0_airOf M 9)]) (kX0_goingOff l D cA T h M (xX0_airOf M 8) (xX0_airOf M 9) hz) (v_id (birdW cA h) M 12 (fun _ => rfl) rfl) gX0_tenth_X0_goingOff rfl ⟨rfl, rfl⟩ ⟨Nat.le_of_ble_eq_true rfl, Nat.le_of_ble_eq_true rfl⟩ ⟨Nat.zero_le _, Nat.zero_le _⟩ rfl (Nat.le_of_ble_eq_true rfl) hdV_X0_goingOff 0 rfl rfl rfl dX0_tenth_20 ?_
  refine g_nmi (fun x2 ex2 => ?_)
  refine g_istore_n C (pc := 23) [(2, .int x2), (1, .int x1), (0, .ref (h 0))] dX0_tenth_23 (by decide) rfl ?_
  refine g_aload_n C (pc := 24) dX0_tenth_24 2 rfl ?_
  refine g_dup C (pc := 25) dX0_tenth_25 rfl ?_
  refine g_get C (pc := 26) inX0_tenth_0 rfl 6 (by decide) (List.mem_of_getElem? (i := 1) rfl) dX0_tenth_26 0 rfl (.int (M 0 6)) rfl ?_
  refine g_iload_n C (pc := 29) dX0_tenth_29 0 rfl ?_
  refine g_isub C (pc := 30) dX0_tenth_30 ?_
  refine g_put C (pc := 31) tyX0 tyX0_ok nmX0 inX0_tenth_0 rfl 6 (by decide) rfl (List.mem_of_getElem? (i := 1) rfl) dX0_tenth_31 rfl rfl 0 rfl (Nat.le_of_ble_eq_true rfl) (birdW cA h) (sa M 0 (up (M 0) 6 (M 0 6 - x2))) rfl (fun M3 eM3 => ?_)
  have hz3 : (Zbird M3) := by rw [eM3]; exact hz
  refine g_aload_n C (pc := 34) dX0_tenth_34 2 rfl ?_
  refine g_dup C (pc := 35) dX0_tenth_35 rfl ?_
  refine g_get C (pc := 36) inX0_tenth_0 rfl 8 (by decide) (List.mem_of_getElem? (i := 2) rfl) dX0_tenth_36 0 rfl (.int (M3 0 8)) rfl ?_
  refine g_iload_n C (pc := 39) dX0_tenth_39 0 rfl ?_
  refine g_iadd C (pc := 40) dX0_tenth_40 ?_
  refine g_put C (pc := 41) tyX0 tyX0_ok nmX0 inX0_tenth_0 rfl 8 (by decide) rfl (List.mem_of_getElem? (i := 2) rfl) dX0_tenth_41 rfl rfl 0 rfl (Nat.le_of_ble_eq_true rfl) (birdW cA h) (sa M3 0 (up (M3 0) 8 (M3 0 8 + x2))) rfl (fun M4 eM4 => ?_)
  have hz4 : (Zbird M4) := by rw [eM4]; exact hz3
  refine g_aload_n C (pc := 44) dX0_tenth_44 2 rfl ?_
  refine g_dup C (pc := 45) dX0_tenth_45 rfl ?_
  refine g_get C (pc := 46) inX0_tenth_0 rfl 9 (by decide) (List.mem_of_getElem? (i := 3) rfl) dX0_tenth_46 0 rfl (.int (M4 0 9)) rfl ?_
  refine g_iload_n C (pc := 49) dX0_tenth_49 0 rfl ?_
  refine g_iadd C (pc := 50) dX0_tenth_50 ?_
  refine g_put C (pc := 51) tyX0 tyX0_ok nmX0 inX0_tenth_0 rfl 9 (by decide) rfl (List.mem_of_getElem? (i := 3) rfl) dX0_tenth_51 rfl rfl 0 rfl (Nat.le_of_ble_eq_true rfl) (birdW cA h) (sa M4 0 (up (M4 0) 9 (M4 0 9 + x2))) rfl (fun M5 eM5 => ?_)
  have hz5 : (Zbird M5) := by rw [eM5]; exact hz4
  refine g_aload_n C (pc := 54) dX0_tenth_54 2 rfl ?_
  refine g_bipush C (pc := 55) dX0_tenth_55 cB_10 ?_
  refine g_Vpi C (pc := 57) (As := [.int 10]) (kX0_airOf l D cA T h M5 10 hz5) (v_id (birdW cA h) M5 12 (fun _ => rfl) rfl) gX0_tenth_X0_airOf rfl ⟨rfl, rfl⟩ ⟨Nat.le_of_ble_eq_true rfl, Nat.le_of_ble_eq_true rfl⟩ ⟨Nat.zero_le _, Nat.zero_le _⟩ rfl (Nat.le_of_ble_eq_true rfl) hdV_X0_airOf 0 rfl rfl rfl dX0_tenth_57 ?_
  refine g_aload_n C (pc := 60) dX0_tenth_60 2 rfl ?_
  refine g_get C (pc := 61) inX0_tenth_0 rfl 0 (by decide) (List.mem_of_getElem? (i := 4) rfl) dX0_tenth_61 0 rfl (.ref (h 1)) rfl ?_
  refine g_bipush C (pc := 64) dX0_tenth_64 cB_7 ?_
  refine g_Vpi C (pc := 66) (As := [.int 7]) (kX1_at l D cA T 15 (sh 1 h) (sh 1 M5) 7 hz5.1) (v_bird_cells_1 cA h M5) gX0_tenth_X1_at rfl ⟨rfl, rfl⟩ ⟨Nat.le_of_ble_eq_true rfl, Nat.le_of_ble_eq_true rfl⟩ ⟨Nat.zero_le _, Nat.zero_le _⟩ rfl (Nat.le_of_ble_eq_true rfl) hdV_X1_at 0 rfl rfl rfl dX0_tenth_66 ?_
  refine g_iconst C (pc := 69) dX0_tenth_69 cI_1 ?_
  refine g_join (α := Int32) (fun v7 => [(0, .ref (h 0)), (1, .int x1), (2, .int x2)]) (fun v7 => [.int v7, .int (xX0_airOf M5 10)]) 78 (fun v7 ev7 => ?_) (fun Jv7 => ?_)
  · refine g_imul C (pc := 78) dX0_tenth_78 ?_
    refine g_nmi (fun x8 ex8 => ?_)
    refine g_istore_n C (pc := 79) [(3, .int x8), (0, .ref (h 0)), (1, .int x1), (2, .int x2)] dX0_tenth_79 (by decide) rfl ?_
    refine g_aload_n C (pc := 80) dX0_tenth_80 1 rfl ?_
    refine g_dup C (pc := 81) dX0_tenth_81 rfl ?_
    refine g_get C (pc := 82) inX0_tenth_0 rfl 4 (by decide) (List.mem_of_getElem? (i := 5) rfl) dX0_tenth_82 0 rfl (.int (M5 0 4)) rfl ?_
    refine g_iload_n C (pc := 85) dX0_tenth_85 2 rfl ?_
    refine g_aload_n C (pc := 86) dX0_tenth_86 1 rfl ?_
    refine g_get C (pc := 87) inX0_tenth_0 rfl 4 (by decide) (List.mem_of_getElem? (i := 5) rfl) dX0_tenth_87 0 rfl (.int (M5 0 4)) rfl ?_
    refine g_isub C (pc := 90) dX0_tenth_90 ?_
    refine g_bipush C (pc := 91) dX0_tenth_91 cB_20 ?_
    refine g_idiv C (pc := 93) dX0_tenth_93 nz_20 ?_
    refine g_iload_n C (pc := 94) dX0_tenth_94 3 rfl ?_
    refine g_bipush C (pc := 95) dX0_tenth_95 cB_10 ?_
    refine g_idiv C (pc := 97) dX0_tenth_97 nz_10 ?_
    refine g_isub C (pc := 98) dX0_tenth_98 ?_
    refine g_iadd C (pc := 99) dX0_tenth_99 ?_
    refine g_put C (pc := 100) tyX0 tyX0_ok nmX0 inX0_tenth_0 rfl 4 (by decide) rfl (List.mem_of_getElem? (i := 5) rfl) dX0_tenth_100 rfl rfl 0 rfl (Nat.le_of_ble_eq_true rfl) (birdW cA h) (sa M5 0 (up (M5 0) 4 (M5 0 4 + (((x1 - M5 0 4) / 20) - (x2 / 10))))) rfl (fun M9 eM9 => ?_)
    have hz9 : (Zbird M9) := by rw [eM9]; exact hz5
    refine g_aload_n C (pc := 103) dX0_tenth_103 1 rfl ?_
    refine g_dup C (pc := 104) dX0_tenth_104 rfl ?_
    refine g_get C (pc := 105) inX0_tenth_0 rfl 5 (by decide) (List.mem_of_getElem? (i := 6) rfl) dX0_tenth_105 0 rfl (.int (M9 0 5)) rfl ?_
    refine g_iload_n C (pc := 108) dX0_tenth_108 2 rfl ?_
    refine g_aload_n C (pc := 109) dX0_tenth_109 1 rfl ?_
    refine g_get C (pc := 110) inX0_tenth_0 rfl 5 (by decide) (List.mem_of_getElem? (i := 6) rfl) dX0_tenth_110 0 rfl (.int (M9 0 5)) rfl ?_
    refine g_isub C (pc := 113) dX0_tenth_113 ?_
    refine g_bipush C (pc := 114) dX0_tenth_114 cB_20 ?_
    refine g_idiv C (pc := 116) dX0_tenth_116 nz_20 ?_
    refine g_iload_n C (pc := 117) dX0_tenth_117 0 rfl ?_
    refine g_iadd C (pc := 118) dX0_tenth_118 ?_
    refine g_iadd C (pc := 119) dX0_tenth_119 ?_
    refine g_put C (pc := 120) tyX0 tyX0_ok nmX0 inX0_tenth_0 rfl 5 (by decide) rfl (List.mem_of_getElem? (i := 6) rfl) dX0_tenth_120 rfl rfl 0 rfl (Nat.le_of_ble_eq_true rfl) (birdW cA h) (sa M9 0 (up (M9 0) 5 (M9 0 5 + (((x1 - M9 0 5) / 20) + x8)))) rfl (fun M10 eM10 => ?_)
    have hz10 : (Zbird M10) := by rw [eM10]; exact hz9
    refine g_aload_n C (pc := 123) dX0_tenth_123 1 rfl ?_
    refine g_aload_n C (pc := 124) dX0_tenth_124 1 rfl ?_
    refine g_Vpi C (pc := 125) (As := []) (kX0_pressure l D cA T h M10 hz10) (v_id (birdW cA h) M10 12 (fun _ => rfl) rfl) gX0_tenth_X0_pressure rfl ⟨rfl, rfl⟩ ⟨Nat.le_of_ble_eq_true rfl, Nat.le_of_ble_eq_true rfl⟩ ⟨Nat.zero_le _, Nat.zero_le _⟩ rfl (Nat.le_of_ble_eq_true rfl) hdV_X0_pressure 0 rfl rfl rfl dX0_tenth_125 ?_
    refine g_put C (pc := 128) tyX0 tyX0_ok nmX0 inX0_tenth_0 rfl 15 (by decide) rfl (List.mem_of_getElem? (i := 7) rfl) dX0_tenth_128 rfl rfl 0 rfl (Nat.le_of_ble_eq_true rfl) (birdW cA h) (sa M10 0 (up (M10 0) 15 (xX0_pressure M10))) rfl (fun M11 eM11 => ?_)
    have hz11 : (Zbird M11) := by rw [eM11]; exact hz10
    refine g_aload_n C (pc := 131) dX0_tenth_131 1 rfl ?_
    refine g_dup C (pc := 132) dX0_tenth_132 rfl ?_
    refine g_get C (pc := 133) inX0_tenth_0 rfl 13 (by decide) (List.mem_of_getElem? (i := 8) rfl) dX0_tenth_133 0 rfl (.int (M11 0 13)) rfl ?_
    refine g_iconst C (pc := 136) dX0_tenth_136 cI_1 ?_
    refine g_iadd C (pc := 137) dX0_tenth_137 ?_
    refine g_put C (pc := 138) tyX0 tyX0_ok nmX0 inX0_tenth_0 rfl 13 (by decide) rfl (List.mem_of_getElem? (i := 8) rfl) dX0_tenth_138 rfl rfl 0 rfl (Nat.le_of_ble_eq_true rfl) (birdW cA h) (sa M11 0 (up (M11 0) 13 (M11 0 13 + 1))) rfl (fun M12 eM12 => ?_)
    have hz12 : (Zbird M12) := by rw [eM12]; exact hz11
    refine g_aload_n C (pc := 141) dX0_tenth_141 1 rfl ?_
    refine g_get C (pc := 142) inX0_tenth_0 rfl 12 (by decide) (List.mem_of_getElem? (i := 9) rfl) dX0_tenth_142 0 rfl (.int (M12 0 12)) rfl ?_
    refine g_inner (σ := St) (fun w13 : St => (birdW cA h w13)) (fun w13 => [(0, .ref (h 0))]) 190 (fun w13 : St => (Zbird w13)) (fun w13 ew13 hw13 => ?_) (fun X13 Jw13 => ?_)
    · refine g_nmW (birdW cA h) (fun M14 eM14 => ?_)
      have hz14 : (Zbird M14) := by rw [eM14]; exact hw13
      refine g_aload_n C (pc := 190) dX0_tenth_190 0 rfl ?_
      refine g_dup C (pc := 191) dX0_tenth_191 rfl ?_
      refine g_get C (pc := 192) inX0_tenth_0 rfl 10 (by decide) (List.mem_of_getElem? (i := 10) rfl) dX0_tenth_192 0 rfl (.int (M14 0 10)) rfl ?_
      refine g_iconst C (pc := 195) dX0_tenth_195 cI_1 ?_
      refine g_iadd C (pc := 196) dX0_tenth_196 ?_
      refine g_put C (pc := 197) tyX0 tyX0_ok nmX0 inX0_tenth_0 rfl 10 (by decide) rfl (List.mem_of_getElem? (i := 10) rfl) dX0_tenth_197 rfl rfl 0 rfl (Nat.le_of_ble_eq_true rfl) (birdW cA h) (sa M14 0 (up (M14 0) 10 (M14 0 10 + 1))) rfl (fun M15 eM15 => ?_)
      have hz15 : (Zbird M15) := by rw [eM15]; exact hz14
      exact r_ev C rfl dX0_tenth_200 hz15
    · refine g_case (M12 0 12) 2 (fun c16 => ?_) (fun c16 => ?_)
      · refine g_lkp C (pc := 145) (off := 27) 172 dX0_tenth_145 (by decide) (by rw [c16] <;> rfl) (by decide) ?_
        refine g_aload_n C (pc := 172) dX0_tenth_172 1 rfl ?_
        refine g_Vev C (pc := 173) (As := []) (kX0_tip l D cA T h M12 hz12) (v_id (birdW cA h) M12 12 (fun _ => rfl) rfl) gX0_tenth_X0_tip rfl ⟨rfl, rfl⟩ ⟨Nat.le_of_ble_eq_true rfl, Nat.le_of_ble_eq_true rfl⟩ ⟨Nat.zero_le _, Nat.zero_le _⟩ rfl (Nat.le_of_ble_eq_true rfl) hdV_X0_tip 0 rfl rfl rfl dX0_tenth_173 (fun M17 eM17 hz_M17 => ?_)
        have hz17 := hz_M17
        refine g_goto C (pc := 176) 190 dX0_tenth_176 (by decide) ?_
        refine g_sub [1] rfl ?_
        exact Jw13 M17 hz17
      · refine g_case (M12 0 12) 3 (fun c18 => ?_) (fun c18 => ?_)
        · refine g_lkp C (pc := 145) (off := 34) 179 dX0_tenth_145 (by decide) (by rw [c18] <;> rfl) (by decide) ?_
          refine g_aload_n C (pc := 179) dX0_tenth_179 1 rfl ?_
          refine g_Vev C (pc := 180) (As := []) (kX0_empty l D cA T h M12 hz12) (v_id (birdW cA h) M12 12 (fun _ => rfl) rfl) gX0_tenth_X0_empty rfl ⟨rfl, rfl⟩ ⟨Nat.le_of_ble_eq_true rfl, Nat.le_of_ble_eq_true rfl⟩ ⟨Nat.zero_le _, Nat.zero_le _⟩ rfl (Nat.le_of_ble_eq_true rfl) hdV_X0_empty 0 rfl rfl rfl dX0_tenth_180 (fun M19 eM19 hz_M19 => ?_)
          have hz19 := hz_M19
          refine g_goto C (pc := 183) 190 dX0_tenth_183 (by decide) ?_
          refine g_sub [1] rfl ?_
          exact Jw13 M19 hz19
        · refine g_lkp C (pc := 145) (off := 41) 186 dX0_tenth_145 (by decide) (by show Op.lookupswitch.offset [(2, 27), (3, 34)] 41 (Int32.toInt (M12 0 12)) = 41; rw [lv_osw (a := 2) c16 rfl]; rw [lv_osw (a := 3) c18 rfl]; rfl) (by decide) ?_
          refine g_aload_n C (pc := 186) dX0_tenth_186 1 rfl ?_
          refine g_Vev C (pc := 187) (As := []) (kX0_rise l D cA T h M12 hz12) (v_id (birdW cA h) M12 12 (fun _ => rfl) rfl) gX0_tenth_X0_rise rfl ⟨rfl, rfl⟩ ⟨Nat.le_of_ble_eq_true rfl, Nat.le_of_ble_eq_true rfl⟩ ⟨Nat.zero_le _, Nat.zero_le _⟩ rfl (Nat.le_of_ble_eq_true rfl) hdV_X0_rise 0 rfl rfl rfl dX0_tenth_187 (fun M20 eM20 hz_M20 => ?_)
          have hz20 := hz_M20
          refine g_sub [1] rfl ?_
          exact Jw13 M20 hz20
  · refine g_icmp_ne0 C (pc := 70) 77 dX0_tenth_70 (by decide) (fun c6 => ?_) (fun c6 => ?_)
    · refine g_iconst C (pc := 77) dX0_tenth_77 cI_1 ?_
      refine g_sub [2, 1, 0] rfl ?_
      exact g_lf (if_neg c6) (Jv7 _ (Eq.symm (if_neg c6)))
    · refine g_iconst C (pc := 73) dX0_tenth_73 cI_2 ?_
      refine g_goto C (pc := 74) 78 dX0_tenth_74 (by decide) ?_
      refine g_sub [2, 1, 0] rfl ?_
      exact g_lf (if_pos c6) (Jv7 _ (Eq.symm (if_pos c6)))
theorem inX0_nodsIn_0 : ∀ w ∈ u_ws RX0 TX0 18, w ∈ wsX0_nodsIn := by decide +kernel
noncomputable def xX0_nodsIn_l7 : Nat → St → Int32 → Int32 → Int32 → Int32 × St
  | 0, M3, _, _, _ => (0, M3)
  | k + 1, M3, p0, x1, v2 => if p0 ≤ v2 then (((M3 0 11 - x1), M3)) else (nm (xX0_tenth M3) fun M5 => nm (v2 + 1 : Int32) fun x6 => xX0_nodsIn_l7 k M5 p0 x1 x6)
noncomputable def xX0_nodsIn (M : St) (p0 : Int32) : Int32 × St := nm (M 0 11 : Int32) fun x1 => xX0_nodsIn_l7 (mu 0 p0 + 1) M p0 x1 0
set_option maxHeartbeats 4000000 in
set_option maxRecDepth 100000 in
theorem kX0_nodsIn (l : Launch) (D : va_G) (cA : ClassId) (T : Nat × Nat × Nat) (h : Nat → Nat) (M : St) (p0 : Int32) (hz : (Zbird M)) : ∀ sz : Nat, Met l yX0_nodsIn wsX0_nodsIn { frames := 4, cells := 0, slots := 0, locals := 92 } (va_Pc [.ref (h 0), .int p0] (PreW D cA T (birdW cA h M) sz)) (va_Qi (fun r u => (r, u) = (xX0_nodsIn M p0) ∧ (Zbird) u) (fun u => PostW D cA (va_A (birdW cA h M) sz) (birdW cA h u)) (va_A (birdW cA h M) sz)) 0 0 (va_A (birdW cA h M) sz) := by
  refine m_ei (Wf := birdW cA h) (inv := (Zbird)) (cc := cX0_nodsIn) (maxL := 4) (own := RX0) (by decide) rfl rfl (Nat.le_of_ble_eq_true rfl) (fun {p e s m args below meth c} A C X => ?_)
  show G p l e { frames := 4, cells := 0, slots := 0, locals := 92 } s m args below meth c 0 0 D A (Qei below D cA A args s 0 0 (birdW cA h) (Zbird) X) 4 X (xX0_nodsIn M p0) (birdW cA h M) 0 [(0, .ref (h 0)), (1, .int p0)] []
  unfold xX0_nodsIn
  refine g_aload_n C (pc := 0) dX0_nodsIn_0 0 rfl ?_
  refine g_get C (pc := 1) inX0_nodsIn_0 rfl 11 (by decide) (List.mem_of_getElem? (i := 1) rfl) dX0_nodsIn_1 0 rfl (.int (M 0 11)) rfl ?_
  refine g_nmi (fun x1 ex1 => ?_)
  refine g_istore_n C (pc := 4) [(2, .int x1), (0, .ref (h 0)), (1, .int p0)] dX0_nodsIn_4 (by decide) rfl ?_
  refine g_iconst C (pc := 5) dX0_nodsIn_5 cI_0 ?_
  refine g_istore_n C (pc := 6) [(3, .int 0), (2, .int x1), (0, .ref (h 0)), (1, .int p0)] dX0_nodsIn_6 (by decide) rfl ?_
  have L7 : ∀ (k : Nat) (M3 : St) (v2 : Int32), (Zbird M3) → mu v2 p0 < k → G p l e { frames := 4, cells := 0, slots := 0, locals := 92 } s m args below meth c 0 0 D A (Qei below D cA A args s 0 0 (birdW cA h) (Zbird) X) 4 X (xX0_nodsIn_l7 k M3 p0 x1 v2) (birdW cA h M3) 7 [(0, .ref (h 0)), (1, .int p0), (2, .int x1), (3, .int v2)] [] := by
    intro k
    induction k with
    | zero => intro M3 v2 hz3 hmu; exact absurd hmu (Nat.not_lt_zero _)
    | succ k ih =>
      intro M3 v2 hz3 hmu
      rw [xX0_nodsIn_l7]
      refine g_iload_n C (pc := 7) dX0_nodsIn_7 3 rfl ?_
      refine g_iload_n C (pc := 8) dX0_nodsIn_8 1 rfl ?_
      refine g_icmp_ge C (pc := 9) 22 dX0_nodsIn_9 (by decide) (fun c4 => ?_) (fun c4 => ?_)
      · refine g_aload_n C (pc := 22) dX0_nodsIn_22 0 rfl ?_
        refine g_get C (pc := 23) inX0_nodsIn_0 rfl 11 (by decide) (List.mem_of_getElem? (i := 1) rfl) dX0_nodsIn_23 0 rfl (.int (M3 0 11)) rfl ?_
        refine g_iload_n C (pc := 26) dX0_nodsIn_26 2 rfl ?_
        refine g_isub C (pc := 27) dX0_nodsIn_27 ?_
        exact r_ei C rfl dX0_nodsIn_28 hz3
      · refine g_aload_n C (pc := 12) dX0_nodsIn_12 0 rfl ?_
        refine g_Vev C (pc := 13) (As := []) (kX0_tenth l D cA T h M3 hz3) (v_id (birdW cA h) M3 12 (fun _ => rfl) rfl) gX0_nodsIn_X0_tenth rfl ⟨rfl, rfl⟩ ⟨Nat.le_of_ble_eq_true rfl, Nat.le_of_ble_eq_true rfl⟩ ⟨Nat.zero_le _, Nat.zero_le _⟩ rfl (Nat.le_of_ble_eq_true rfl) hdV_X0_tenth 0 rfl rfl rfl dX0_nodsIn_13 (fun M5 eM5 hz_M5 => ?_)
        have hz5 := hz_M5
        refine g_iincN C (pc := 16) 1 (fun y => [(3, .int y), (0, .ref (h 0)), (1, .int p0), (2, .int x1)]) dX0_nodsIn_16 3 rfl cI_1 (by decide) (fun _ => rfl) (fun x6 ex6 => ?_)
        refine g_goto C (pc := 19) 7 dX0_nodsIn_19 (by decide) ?_
        refine g_sub [1, 2, 3, 0] rfl ?_
        exact ih M5 x6 hz5 (by rw [ex6]; exact lp_dec c4 hmu)
  refine g_sub [2, 3, 1, 0] rfl ?_
  exact L7 _ M 0 hz (Nat.lt_succ_self _)
theorem inX0_nodsWithin_0 : ∀ w ∈ u_ws RX0 TX0 18, w ∈ wsX0_nodsWithin := by decide +kernel
noncomputable def xX0_nodsWithin_j30 (M4 : St) (x1 : Int32) : Int32 × St := if M4 0 11 ≤ x1 then ((0, M4)) else ((1, M4))
noncomputable def xX0_nodsWithin_l7 : Nat → St → Int32 → Int32 → Int32 → Int32 × St
  | 0, M3, _, _, _ => (0, M3)
  | k + 1, M3, p0, x1, v2 => if p0 ≤ v2 then (xX0_nodsWithin_j30 M3 x1) else (if M3 0 11 = x1 then (nm (xX0_tenth M3) fun M8 => nm (v2 + 1 : Int32) fun x9 => xX0_nodsWithin_l7 k M8 p0 x1 x9) else (xX0_nodsWithin_j30 M3 x1))
noncomputable def xX0_nodsWithin (M : St) (p0 : Int32) : Int32 × St := nm (M 0 11 : Int32) fun x1 => xX0_nodsWithin_l7 (mu 0 p0 + 1) M p0 x1 0
set_option maxHeartbeats 4000000 in
set_option maxRecDepth 100000 in
theorem kX0_nodsWithin (l : Launch) (D : va_G) (cA : ClassId) (T : Nat × Nat × Nat) (h : Nat → Nat) (M : St) (p0 : Int32) (hz : (Zbird M)) : ∀ sz : Nat, Met l yX0_nodsWithin wsX0_nodsWithin { frames := 4, cells := 0, slots := 0, locals := 92 } (va_Pc [.ref (h 0), .int p0] (PreW D cA T (birdW cA h M) sz)) (va_Qi (fun r u => (r, u) = (xX0_nodsWithin M p0) ∧ (Zbird) u) (fun u => PostW D cA (va_A (birdW cA h M) sz) (birdW cA h u)) (va_A (birdW cA h M) sz)) 0 0 (va_A (birdW cA h M) sz) := by
  refine m_ei (Wf := birdW cA h) (inv := (Zbird)) (cc := cX0_nodsWithin) (maxL := 4) (own := RX0) (by decide) rfl rfl (Nat.le_of_ble_eq_true rfl) (fun {p e s m args below meth c} A C X => ?_)
  show G p l e { frames := 4, cells := 0, slots := 0, locals := 92 } s m args below meth c 0 0 D A (Qei below D cA A args s 0 0 (birdW cA h) (Zbird) X) 4 X (xX0_nodsWithin M p0) (birdW cA h M) 0 [(0, .ref (h 0)), (1, .int p0)] []
  unfold xX0_nodsWithin
  refine g_aload_n C (pc := 0) dX0_nodsWithin_0 0 rfl ?_
  refine g_get C (pc := 1) inX0_nodsWithin_0 rfl 11 (by decide) (List.mem_of_getElem? (i := 1) rfl) dX0_nodsWithin_1 0 rfl (.int (M 0 11)) rfl ?_
  refine g_nmi (fun x1 ex1 => ?_)
  refine g_istore_n C (pc := 4) [(2, .int x1), (0, .ref (h 0)), (1, .int p0)] dX0_nodsWithin_4 (by decide) rfl ?_
  refine g_iconst C (pc := 5) dX0_nodsWithin_5 cI_0 ?_
  refine g_istore_n C (pc := 6) [(3, .int 0), (2, .int x1), (0, .ref (h 0)), (1, .int p0)] dX0_nodsWithin_6 (by decide) rfl ?_
  have L7 : ∀ (k : Nat) (M3 : St) (v2 : Int32), (Zbird M3) → mu v2 p0 < k → G p l e { frames := 4, cells := 0, slots := 0, locals := 92 } s m args below meth c 0 0 D A (Qei below D cA A args s 0 0 (birdW cA h) (Zbird) X) 4 X (xX0_nodsWithin_l7 k M3 p0 x1 v2) (birdW cA h M3) 7 [(0, .ref (h 0)), (1, .int p0), (2, .int x1), (3, .int v2)] [] := by
    intro k
    induction k with
    | zero => intro M3 v2 hz3 hmu; exact absurd hmu (Nat.not_lt_zero _)
    | succ k ih =>
      intro M3 v2 hz3 hmu
      rw [xX0_nodsWithin_l7]
      refine g_iload_n C (pc := 7) dX0_nodsWithin_7 3 rfl ?_
      refine g_iload_n C (pc := 8) dX0_nodsWithin_8 1 rfl ?_
      have J30 : ∀ (M4 : St), (Zbird M4) → G p l e { frames := 4, cells := 0, slots := 0, locals := 92 } s m args below meth c 0 0 D A (Qei below D cA A args s 0 0 (birdW cA h) (Zbird) X) 4 X (xX0_nodsWithin_j30 M4 x1) (birdW cA h M4) 30 [(0, .ref (h 0)), (2, .int x1)] [] := by
        intro M4 hz4
        unfold xX0_nodsWithin_j30
        refine g_aload_n C (pc := 30) dX0_nodsWithin_30 0 rfl ?_
        refine g_get C (pc := 31) inX0_nodsWithin_0 rfl 11 (by decide) (List.mem_of_getElem? (i := 1) rfl) dX0_nodsWithin_31 0 rfl (.int (M4 0 11)) rfl ?_
        refine g_iload_n C (pc := 34) dX0_nodsWithin_34 1 rfl ?_
        refine g_icmp_le C (pc := 35) 42 dX0_nodsWithin_35 (by decide) (fun c5 => ?_) (fun c5 => ?_)
        · refine g_iconst C (pc := 42) dX0_nodsWithin_42 cI_0 ?_
          exact r_ez C rfl (rfl) dX0_nodsWithin_43 hz4
        · refine g_iconst C (pc := 38) dX0_nodsWithin_38 cI_1 ?_
          refine g_goto C (pc := 39) 43 dX0_nodsWithin_39 (by decide) ?_
          exact r_ez C rfl (rfl) dX0_nodsWithin_43 hz4
      refine g_icmp_ge C (pc := 9) 30 dX0_nodsWithin_9 (by decide) (fun c6 => ?_) (fun c6 => ?_)
      · refine g_sub [0, 2] rfl ?_
        exact J30 M3 hz3
      · refine g_aload_n C (pc := 12) dX0_nodsWithin_12 0 rfl ?_
        refine g_get C (pc := 13) inX0_nodsWithin_0 rfl 11 (by decide) (List.mem_of_getElem? (i := 1) rfl) dX0_nodsWithin_13 0 rfl (.int (M3 0 11)) rfl ?_
        refine g_iload_n C (pc := 16) dX0_nodsWithin_16 2 rfl ?_
        refine g_icmp_ne C (pc := 17) 30 dX0_nodsWithin_17 (by decide) (fun c7 => ?_) (fun c7 => ?_)
        · refine g_sub [0, 2] rfl ?_
          exact J30 M3 hz3
        · refine g_aload_n C (pc := 20) dX0_nodsWithin_20 0 rfl ?_
          refine g_Vev C (pc := 21) (As := []) (kX0_tenth l D cA T h M3 hz3) (v_id (birdW cA h) M3 12 (fun _ => rfl) rfl) gX0_nodsWithin_X0_tenth rfl ⟨rfl, rfl⟩ ⟨Nat.le_of_ble_eq_true rfl, Nat.le_of_ble_eq_true rfl⟩ ⟨Nat.zero_le _, Nat.zero_le _⟩ rfl (Nat.le_of_ble_eq_true rfl) hdV_X0_tenth 0 rfl rfl rfl dX0_nodsWithin_21 (fun M8 eM8 hz_M8 => ?_)
          have hz8 := hz_M8
          refine g_iincN C (pc := 24) 1 (fun y => [(3, .int y), (0, .ref (h 0)), (1, .int p0), (2, .int x1)]) dX0_nodsWithin_24 3 rfl cI_1 (by decide) (fun _ => rfl) (fun x9 ex9 => ?_)
          refine g_goto C (pc := 27) 7 dX0_nodsWithin_27 (by decide) ?_
          refine g_sub [1, 2, 3, 0] rfl ?_
          exact ih M8 x9 hz8 (by rw [ex9]; exact lp_dec c6 hmu)
  refine g_sub [2, 3, 1, 0] rfl ?_
  exact L7 _ M 0 hz (Nat.lt_succ_self _)
theorem inX0_lastNodIn_0 : ∀ w ∈ u_ws RX0 TX0 18, w ∈ wsX0_lastNodIn := by decide +kernel
noncomputable def xX0_lastNodIn_l4 : Nat → St → Int32 → Int32 → Int32 → Int32 × St
  | 0, M4, _, _, _ => (0, M4)
  | k + 1, M4, p0, v2, v3 => if p0 ≤ v3 then ((v2, M4)) else (nm (xX0_nodsIn M4 1) fun z6 => nm (z6.2) fun M7 => if z6.1 ≤ 0 then (nm (v3 + 1 : Int32) fun x9 => xX0_lastNodIn_l4 k M7 p0 v2 x9) else (nm ((M7 0 10 - 1) : Int32) fun x10 => nm (v3 + 1 : Int32) fun x11 => xX0_lastNodIn_l4 k M7 p0 x10 x11))
noncomputable def xX0_lastNodIn (M : St) (p0 : Int32) : Int32 × St := nm ((-1) : Int32) fun x1 => xX0_lastNodIn_l4 (mu 0 p0 + 1) M p0 x1 0
set_option maxHeartbeats 4000000 in
set_option maxRecDepth 100000 in
theorem kX0_lastNodIn (l : Launch) (D : va_G) (cA : ClassId) (T : Nat × Nat × Nat) (h : Nat → Nat) (M : St) (p0 : Int32) (hz : (Zbird M)) : ∀ sz : Nat, Met l yX0_lastNodIn wsX0_lastNodIn { frames := 5, cells := 0, slots := 0, locals := 115 } (va_Pc [.ref (h 0), .int p0] (PreW D cA T (birdW cA h M) sz)) (va_Qi (fun r u => (r, u) = (xX0_lastNodIn M p0) ∧ (Zbird) u) (fun u => PostW D cA (va_A (birdW cA h M) sz) (birdW cA h u)) (va_A (birdW cA h M) sz)) 0 0 (va_A (birdW cA h M) sz) := by
  refine m_ei (Wf := birdW cA h) (inv := (Zbird)) (cc := cX0_lastNodIn) (maxL := 4) (own := RX0) (by decide) rfl rfl (Nat.le_of_ble_eq_true rfl) (fun {p e s m args below meth c} A C X => ?_)
  show G p l e { frames := 5, cells := 0, slots := 0, locals := 115 } s m args below meth c 0 0 D A (Qei below D cA A args s 0 0 (birdW cA h) (Zbird) X) 4 X (xX0_lastNodIn M p0) (birdW cA h M) 0 [(0, .ref (h 0)), (1, .int p0)] []
  unfold xX0_lastNodIn
  refine g_iconst C (pc := 0) dX0_lastNodIn_0 cI_m1 ?_
  refine g_nmi (fun x1 ex1 => ?_)
  refine g_istore_n C (pc := 1) [(2, .int x1), (0, .ref (h 0)), (1, .int p0)] dX0_lastNodIn_1 (by decide) rfl ?_
  refine g_iconst C (pc := 2) dX0_lastNodIn_2 cI_0 ?_
  refine g_istore_n C (pc := 3) [(3, .int 0), (2, .int x1), (0, .ref (h 0)), (1, .int p0)] dX0_lastNodIn_3 (by decide) rfl ?_
  have L4 : ∀ (k : Nat) (M4 : St) (v2 : Int32) (v3 : Int32), (Zbird M4) → mu v3 p0 < k → G p l e { frames := 5, cells := 0, slots := 0, locals := 115 } s m args below meth c 0 0 D A (Qei below D cA A args s 0 0 (birdW cA h) (Zbird) X) 4 X (xX0_lastNodIn_l4 k M4 p0 v2 v3) (birdW cA h M4) 4 [(0, .ref (h 0)), (1, .int p0), (2, .int v2), (3, .int v3)] [] := by
    intro k
    induction k with
    | zero => intro M4 v2 v3 hz4 hmu; exact absurd hmu (Nat.not_lt_zero _)
    | succ k ih =>
      intro M4 v2 v3 hz4 hmu
      rw [xX0_lastNodIn_l4]
      refine g_iload_n C (pc := 4) dX0_lastNodIn_4 3 rfl ?_
      refine g_iload_n C (pc := 5) dX0_lastNodIn_5 1 rfl ?_
      refine g_icmp_ge C (pc := 6) 30 dX0_lastNodIn_6 (by decide) (fun c5 => ?_) (fun c5 => ?_)
      · refine g_iload_n C (pc := 30) dX0_lastNodIn_30 2 rfl ?_
        exact r_ei C rfl dX0_lastNodIn_31 hz4
      · refine g_aload_n C (pc := 9) dX0_lastNodIn_9 0 rfl ?_
        refine g_iconst C (pc := 10) dX0_lastNodIn_10 cI_1 ?_
        refine g_Vei C (pc := 11) (As := [.int 1]) (kX0_nodsIn l D cA T h M4 1 hz4) (v_id (birdW cA h) M4 12 (fun _ => rfl) rfl) gX0_lastNodIn_X0_nodsIn rfl ⟨rfl, rfl⟩ ⟨Nat.le_of_ble_eq_true rfl, Nat.le_of_ble_eq_true rfl⟩ ⟨Nat.zero_le _, Nat.zero_le _⟩ rfl (Nat.le_of_ble_eq_true rfl) hdV_X0_nodsIn 0 rfl rfl rfl dX0_lastNodIn_11 (fun z6 ez6 hz_z6 => ?_)
        refine g_nmW (birdW cA h) (fun M7 eM7 => ?_)
        have hz7 : (Zbird M7) := by rw [eM7]; exact hz_z6
        refine g_if_le C (pc := 14) 24 dX0_lastNodIn_14 (by decide) (fun c8 => ?_) (fun c8 => ?_)
        · refine g_iincN C (pc := 24) 1 (fun y => [(3, .int y), (0, .ref (h 0)), (1, .int p0), (2, .int v2)]) dX0_lastNodIn_24 3 rfl cI_1 (by decide) (fun _ => rfl) (fun x9 ex9 => ?_)
          refine g_goto C (pc := 27) 4 dX0_lastNodIn_27 (by decide) ?_
          refine g_sub [1, 2, 3, 0] rfl ?_
          exact ih M7 v2 x9 hz7 (by rw [ex9]; exact lp_dec c5 hmu)
        · refine g_aload_n C (pc := 17) dX0_lastNodIn_17 0 rfl ?_
          refine g_get C (pc := 18) inX0_lastNodIn_0 rfl 10 (by decide) (List.mem_of_getElem? (i := 1) rfl) dX0_lastNodIn_18 0 rfl (.int (M7 0 10)) rfl ?_
          refine g_iconst C (pc := 21) dX0_lastNodIn_21 cI_1 ?_
          refine g_isub C (pc := 22) dX0_lastNodIn_22 ?_
          refine g_nmi (fun x10 ex10 => ?_)
          refine g_istore_n C (pc := 23) [(2, .int x10), (0, .ref (h 0)), (1, .int p0), (3, .int v3)] dX0_lastNodIn_23 (by decide) rfl ?_
          refine g_iincN C (pc := 24) 1 (fun y => [(3, .int y), (2, .int x10), (0, .ref (h 0)), (1, .int p0)]) dX0_lastNodIn_24 3 rfl cI_1 (by decide) (fun _ => rfl) (fun x11 ex11 => ?_)
          refine g_goto C (pc := 27) 4 dX0_lastNodIn_27 (by decide) ?_
          refine g_sub [2, 3, 1, 0] rfl ?_
          exact ih M7 x10 x11 hz7 (by rw [ex11]; exact lp_dec c5 hmu)
  refine g_sub [2, 3, 1, 0] rfl ?_
  exact L4 _ M x1 0 hz (Nat.lt_succ_self _)
theorem inX0_become_0 : ∀ w ∈ u_ws RX0 TX0 18, w ∈ wsX0_become := by decide +kernel
noncomputable def xX0_become (M : St) : St := nm (xX1_become 15 15 (sh2 1 2 13 M)) fun z1 => nm (put2 1 2 13 2 z1 M) fun M2 => nm (xX2_become (sh2 3 7 15 M2)) fun z3 => nm (put2 3 7 15 7 z3 M2) fun M4 => nm (xX1_become 60 60 (sh2 10 2 22 M4)) fun z5 => nm (put2 10 2 22 2 z5 M4) fun M6 => nm (sa M6 0 (up (M6 0) 3 (M6 12 3))) fun M7 => nm (sa M7 0 (up (M7 0) 4 (M7 12 4))) fun M8 => nm (sa M8 0 (up (M8 0) 5 (M8 12 5))) fun M9 => nm (sa M9 0 (up (M9 0) 6 (M9 12 6))) fun M10 => nm (sa M10 0 (up (M10 0) 7 (M10 12 7))) fun M11 => nm (sa M11 0 (up (M11 0) 8 (M11 12 8))) fun M12 => nm (sa M12 0 (up (M12 0) 9 (M12 12 9))) fun M13 => nm (sa M13 0 (up (M13 0) 10 (M13 12 10))) fun M14 => nm (sa M14 0 (up (M14 0) 11 (M14 12 11))) fun M15 => nm (sa M15 0 (up (M15 0) 12 (M15 12 12))) fun M16 => nm (sa M16 0 (up (M16 0) 13 (M16 12 13))) fun M17 => nm (sa M17 0 (up (M17 0) 14 (M17 12 14))) fun M18 => nm (sa M18 0 (up (M18 0) 15 (M18 12 15))) fun M19 => nm (sa M19 0 (up (M19 0) 16 (M19 12 16))) fun M20 => nm (sa M20 0 (up (M20 0) 17 (M20 12 17))) fun M21 => M21
set_option maxHeartbeats 4000000 in
set_option maxRecDepth 100000 in
theorem kX0_become (l : Launch) (D : va_G) (cA : ClassId) (T : Nat × Nat × Nat) (h : Nat → Nat) (M : St) (hz : (Zbird2 M)) : ∀ sz : Nat, Met l yX0_become wsX0_become { frames := 3, cells := 0, slots := 0, locals := 107 } (va_Pc [.ref (h 0), .ref (h 12)] (PreW D cA T (bird2W cA h M) sz)) (va_Qv (fun u => u = (xX0_become M) ∧ (Zbird2) u) (fun u => PostW D cA (va_A (bird2W cA h M) sz) (bird2W cA h u)) (va_A (bird2W cA h M) sz)) 0 0 (va_A (bird2W cA h M) sz) := by
  refine m_ev (Wf := bird2W cA h) (inv := (Zbird2)) (cc := cX0_become) (maxL := 2) (own := RX0) (by decide) rfl rfl (Nat.le_of_ble_eq_true rfl) (fun {p e s m args below meth c} A C X => ?_)
  show G p l e { frames := 3, cells := 0, slots := 0, locals := 107 } s m args below meth c 0 0 D A (Qev below D cA A args s 0 0 (bird2W cA h) (Zbird2) X) 2 X (xX0_become M) (bird2W cA h M) 0 [(0, .ref (h 0)), (1, .ref (h 12))] []
  unfold xX0_become
  refine g_aload_n C (pc := 0) dX0_become_0 0 rfl ?_
  refine g_get C (pc := 1) inX0_become_0 rfl 0 (by decide) (List.mem_of_getElem? (i := 1) rfl) dX0_become_1 0 rfl (.ref (h 1)) rfl ?_
  refine g_aload_n C (pc := 4) dX0_become_4 1 rfl ?_
  refine g_get C (pc := 5) inX0_become_0 rfl 0 (by decide) (List.mem_of_getElem? (i := 1) rfl) dX0_become_5 12 rfl (.ref (h 13)) rfl ?_
  refine g_Vev C (pc := 8) (As := [.ref (h 13)]) (kX1_become l D cA T 15 15 (sh2 1 2 13 h) (sh2 1 2 13 M) ⟨hz.1, hz.2.2.2.2.2.1⟩) (v_bird2_cells2_1_13 cA h M) gX0_become_X1_become rfl ⟨rfl, rfl⟩ ⟨Nat.le_of_ble_eq_true rfl, Nat.le_of_ble_eq_true rfl⟩ ⟨Nat.zero_le _, Nat.zero_le _⟩ rfl (Nat.le_of_ble_eq_true rfl) hdV_X1_become 0 rfl rfl rfl dX0_become_8 (fun z1 ez1 hz_z1 => ?_)
  refine g_nmW (bird2W cA h) (fun M2 eM2 => ?_)
  have hz2 : (Zbird2 M2) := by rw [eM2]; exact ⟨hz_z1.1, hz.2.1, hz.2.2.1, hz.2.2.2.1, hz.2.2.2.2.1, hz_z1.2, hz.2.2.2.2.2.2.1, hz.2.2.2.2.2.2.2.1, hz.2.2.2.2.2.2.2.2.1, hz.2.2.2.2.2.2.2.2.2⟩
  refine g_aload_n C (pc := 11) dX0_become_11 0 rfl ?_
  refine g_get C (pc := 12) inX0_become_0 rfl 1 (by decide) (List.mem_of_getElem? (i := 2) rfl) dX0_become_12 0 rfl (.ref (h 3)) rfl ?_
  refine g_aload_n C (pc := 15) dX0_become_15 1 rfl ?_
  refine g_get C (pc := 16) inX0_become_0 rfl 1 (by decide) (List.mem_of_getElem? (i := 2) rfl) dX0_become_16 12 rfl (.ref (h 15)) rfl ?_
  refine g_Vev C (pc := 19) (As := [.ref (h 15)]) (kX2_become l D cA T (sh2 3 7 15 h) (sh2 3 7 15 M2) ⟨hz2.2.1, hz2.2.2.1, hz2.2.2.2.1, hz2.2.2.2.2.2.2.1, hz2.2.2.2.2.2.2.2.1, hz2.2.2.2.2.2.2.2.2.1⟩) (v_bird2_hours2_3_15 cA h M2) gX0_become_X2_become rfl ⟨rfl, rfl⟩ ⟨Nat.le_of_ble_eq_true rfl, Nat.le_of_ble_eq_true rfl⟩ ⟨Nat.zero_le _, Nat.zero_le _⟩ rfl (Nat.le_of_ble_eq_true rfl) hdV_X2_become 0 rfl rfl rfl dX0_become_19 (fun z3 ez3 hz_z3 => ?_)
  refine g_nmW (bird2W cA h) (fun M4 eM4 => ?_)
  have hz4 : (Zbird2 M4) := by rw [eM4]; exact ⟨hz2.1, hz_z3.1, hz_z3.2.1, hz_z3.2.2.1, hz2.2.2.2.2.1, hz2.2.2.2.2.2.1, hz_z3.2.2.2.1, hz_z3.2.2.2.2.1, hz_z3.2.2.2.2.2, hz2.2.2.2.2.2.2.2.2.2⟩
  refine g_aload_n C (pc := 22) dX0_become_22 0 rfl ?_
  refine g_get C (pc := 23) inX0_become_0 rfl 2 (by decide) (List.mem_of_getElem? (i := 3) rfl) dX0_become_23 0 rfl (.ref (h 10)) rfl ?_
  refine g_aload_n C (pc := 26) dX0_become_26 1 rfl ?_
  refine g_get C (pc := 27) inX0_become_0 rfl 2 (by decide) (List.mem_of_getElem? (i := 3) rfl) dX0_become_27 12 rfl (.ref (h 22)) rfl ?_
  refine g_Vev C (pc := 30) (As := [.ref (h 22)]) (kX1_become l D cA T 60 60 (sh2 10 2 22 h) (sh2 10 2 22 M4) ⟨hz4.2.2.2.2.1, hz4.2.2.2.2.2.2.2.2.2⟩) (v_bird2_cells2_10_22 cA h M4) gX0_become_X1_become rfl ⟨rfl, rfl⟩ ⟨Nat.le_of_ble_eq_true rfl, Nat.le_of_ble_eq_true rfl⟩ ⟨Nat.zero_le _, Nat.zero_le _⟩ rfl (Nat.le_of_ble_eq_true rfl) hdV_X1_become 0 rfl rfl rfl dX0_become_30 (fun z5 ez5 hz_z5 => ?_)
  refine g_nmW (bird2W cA h) (fun M6 eM6 => ?_)
  have hz6 : (Zbird2 M6) := by rw [eM6]; exact ⟨hz4.1, hz4.2.1, hz4.2.2.1, hz4.2.2.2.1, hz_z5.1, hz4.2.2.2.2.2.1, hz4.2.2.2.2.2.2.1, hz4.2.2.2.2.2.2.2.1, hz4.2.2.2.2.2.2.2.2.1, hz_z5.2⟩
  refine g_aload_n C (pc := 33) dX0_become_33 0 rfl ?_
  refine g_aload_n C (pc := 34) dX0_become_34 1 rfl ?_
  refine g_get C (pc := 35) inX0_become_0 rfl 3 (by decide) (List.mem_of_getElem? (i := 4) rfl) dX0_become_35 12 rfl (.int (M6 12 3)) rfl ?_
  refine g_put C (pc := 38) tyX0 tyX0_ok nmX0 inX0_become_0 rfl 3 (by decide) rfl (List.mem_of_getElem? (i := 4) rfl) dX0_become_38 rfl rfl 0 rfl (Nat.le_of_ble_eq_true rfl) (bird2W cA h) (sa M6 0 (up (M6 0) 3 (M6 12 3))) rfl (fun M7 eM7 => ?_)
  have hz7 : (Zbird2 M7) := by rw [eM7]; exact hz6
  refine g_aload_n C (pc := 41) dX0_become_41 0 rfl ?_
  refine g_aload_n C (pc := 42) dX0_become_42 1 rfl ?_
  refine g_get C (pc := 43) inX0_become_0 rfl 4 (by decide) (List.mem_of_getElem? (i := 5) rfl) dX0_become_43 12 rfl (.int (M7 12 4)) rfl ?_
  refine g_put C (pc := 46) tyX0 tyX0_ok nmX0 inX0_become_0 rfl 4 (by decide) rfl (List.mem_of_getElem? (i := 5) rfl) dX0_become_46 rfl rfl 0 rfl (Nat.le_of_ble_eq_true rfl) (bird2W cA h) (sa M7 0 (up (M7 0) 4 (M7 12 4))) rfl (fun M8 eM8 => ?_)
  have hz8 : (Zbird2 M8) := by rw [eM8]; exact hz7
  refine g_aload_n C (pc := 49) dX0_become_49 0 rfl ?_
  refine g_aload_n C (pc := 50) dX0_become_50 1 rfl ?_
  refine g_get C (pc := 51) inX0_become_0 rfl 5 (by decide) (List.mem_of_getElem? (i := 6) rfl) dX0_become_51 12 rfl (.int (M8 12 5)) rfl ?_
  refine g_put C (pc := 54) tyX0 tyX0_ok nmX0 inX0_become_0 rfl 5 (by decide) rfl (List.mem_of_getElem? (i := 6) rfl) dX0_become_54 rfl rfl 0 rfl (Nat.le_of_ble_eq_true rfl) (bird2W cA h) (sa M8 0 (up (M8 0) 5 (M8 12 5))) rfl (fun M9 eM9 => ?_)
  have hz9 : (Zbird2 M9) := by rw [eM9]; exact hz8
  refine g_aload_n C (pc := 57) dX0_become_57 0 rfl ?_
  refine g_aload_n C (pc := 58) dX0_become_58 1 rfl ?_
  refine g_get C (pc := 59) inX0_become_0 rfl 6 (by decide) (List.mem_of_getElem? (i := 7) rfl) dX0_become_59 12 rfl (.int (M9 12 6)) rfl ?_
  refine g_put C (pc := 62) tyX0 tyX0_ok nmX0 inX0_become_0 rfl 6 (by decide) rfl (List.mem_of_getElem? (i := 7) rfl) dX0_become_62 rfl rfl 0 rfl (Nat.le_of_ble_eq_true rfl) (bird2W cA h) (sa M9 0 (up (M9 0) 6 (M9 12 6))) rfl (fun M10 eM10 => ?_)
  have hz10 : (Zbird2 M10) := by rw [eM10]; exact hz9
  refine g_aload_n C (pc := 65) dX0_become_65 0 rfl ?_
  refine g_aload_n C (pc := 66) dX0_become_66 1 rfl ?_
  refine g_get C (pc := 67) inX0_become_0 rfl 7 (by decide) (List.mem_of_getElem? (i := 8) rfl) dX0_become_67 12 rfl (.int (M10 12 7)) rfl ?_
  refine g_put C (pc := 70) tyX0 tyX0_ok nmX0 inX0_become_0 rfl 7 (by decide) rfl (List.mem_of_getElem? (i := 8) rfl) dX0_become_70 rfl rfl 0 rfl (Nat.le_of_ble_eq_true rfl) (bird2W cA h) (sa M10 0 (up (M10 0) 7 (M10 12 7))) rfl (fun M11 eM11 => ?_)
  have hz11 : (Zbird2 M11) := by rw [eM11]; exact hz10
  refine g_aload_n C (pc := 73) dX0_become_73 0 rfl ?_
  refine g_aload_n C (pc := 74) dX0_become_74 1 rfl ?_
  refine g_get C (pc := 75) inX0_become_0 rfl 8 (by decide) (List.mem_of_getElem? (i := 9) rfl) dX0_become_75 12 rfl (.int (M11 12 8)) rfl ?_
  refine g_put C (pc := 78) tyX0 tyX0_ok nmX0 inX0_become_0 rfl 8 (by decide) rfl (List.mem_of_getElem? (i := 9) rfl) dX0_become_78 rfl rfl 0 rfl (Nat.le_of_ble_eq_true rfl) (bird2W cA h) (sa M11 0 (up (M11 0) 8 (M11 12 8))) rfl (fun M12 eM12 => ?_)
  have hz12 : (Zbird2 M12) := by rw [eM12]; exact hz11
  refine g_aload_n C (pc := 81) dX0_become_81 0 rfl ?_
  refine g_aload_n C (pc := 82) dX0_become_82 1 rfl ?_
  refine g_get C (pc := 83) inX0_become_0 rfl 9 (by decide) (List.mem_of_getElem? (i := 10) rfl) dX0_become_83 12 rfl (.int (M12 12 9)) rfl ?_
  refine g_put C (pc := 86) tyX0 tyX0_ok nmX0 inX0_become_0 rfl 9 (by decide) rfl (List.mem_of_getElem? (i := 10) rfl) dX0_become_86 rfl rfl 0 rfl (Nat.le_of_ble_eq_true rfl) (bird2W cA h) (sa M12 0 (up (M12 0) 9 (M12 12 9))) rfl (fun M13 eM13 => ?_)
  have hz13 : (Zbird2 M13) := by rw [eM13]; exact hz12
  refine g_aload_n C (pc := 89) dX0_become_89 0 rfl ?_
  refine g_aload_n C (pc := 90) dX0_become_90 1 rfl ?_
  refine g_get C (pc := 91) inX0_become_0 rfl 10 (by decide) (List.mem_of_getElem? (i := 11) rfl) dX0_become_91 12 rfl (.int (M13 12 10)) rfl ?_
  refine g_put C (pc := 94) tyX0 tyX0_ok nmX0 inX0_become_0 rfl 10 (by decide) rfl (List.mem_of_getElem? (i := 11) rfl) dX0_become_94 rfl rfl 0 rfl (Nat.le_of_ble_eq_true rfl) (bird2W cA h) (sa M13 0 (up (M13 0) 10 (M13 12 10))) rfl (fun M14 eM14 => ?_)
  have hz14 : (Zbird2 M14) := by rw [eM14]; exact hz13
  refine g_aload_n C (pc := 97) dX0_become_97 0 rfl ?_
  refine g_aload_n C (pc := 98) dX0_become_98 1 rfl ?_
  refine g_get C (pc := 99) inX0_become_0 rfl 11 (by decide) (List.mem_of_getElem? (i := 12) rfl) dX0_become_99 12 rfl (.int (M14 12 11)) rfl ?_
  refine g_put C (pc := 102) tyX0 tyX0_ok nmX0 inX0_become_0 rfl 11 (by decide) rfl (List.mem_of_getElem? (i := 12) rfl) dX0_become_102 rfl rfl 0 rfl (Nat.le_of_ble_eq_true rfl) (bird2W cA h) (sa M14 0 (up (M14 0) 11 (M14 12 11))) rfl (fun M15 eM15 => ?_)
  have hz15 : (Zbird2 M15) := by rw [eM15]; exact hz14
  refine g_aload_n C (pc := 105) dX0_become_105 0 rfl ?_
  refine g_aload_n C (pc := 106) dX0_become_106 1 rfl ?_
  refine g_get C (pc := 107) inX0_become_0 rfl 12 (by decide) (List.mem_of_getElem? (i := 13) rfl) dX0_become_107 12 rfl (.int (M15 12 12)) rfl ?_
  refine g_put C (pc := 110) tyX0 tyX0_ok nmX0 inX0_become_0 rfl 12 (by decide) rfl (List.mem_of_getElem? (i := 13) rfl) dX0_become_110 rfl rfl 0 rfl (Nat.le_of_ble_eq_true rfl) (bird2W cA h) (sa M15 0 (up (M15 0) 12 (M15 12 12))) rfl (fun M16 eM16 => ?_)
  have hz16 : (Zbird2 M16) := by rw [eM16]; exact hz15
  refine g_aload_n C (pc := 113) dX0_become_113 0 rfl ?_
  refine g_aload_n C (pc := 114) dX0_become_114 1 rfl ?_
  refine g_get C (pc := 115) inX0_become_0 rfl 13 (by decide) (List.mem_of_getElem? (i := 14) rfl) dX0_become_115 12 rfl (.int (M16 12 13)) rfl ?_
  refine g_put C (pc := 118) tyX0 tyX0_ok nmX0 inX0_become_0 rfl 13 (by decide) rfl (List.mem_of_getElem? (i := 14) rfl) dX0_become_118 rfl rfl 0 rfl (Nat.le_of_ble_eq_true rfl) (bird2W cA h) (sa M16 0 (up (M16 0) 13 (M16 12 13))) rfl (fun M17 eM17 => ?_)
  have hz17 : (Zbird2 M17) := by rw [eM17]; exact hz16
  refine g_aload_n C (pc := 121) dX0_become_121 0 rfl ?_
  refine g_aload_n C (pc := 122) dX0_become_122 1 rfl ?_
  refine g_get C (pc := 123) inX0_become_0 rfl 14 (by decide) (List.mem_of_getElem? (i := 15) rfl) dX0_become_123 12 rfl (.int (M17 12 14)) rfl ?_
  refine g_put C (pc := 126) tyX0 tyX0_ok nmX0 inX0_become_0 rfl 14 (by decide) rfl (List.mem_of_getElem? (i := 15) rfl) dX0_become_126 rfl rfl 0 rfl (Nat.le_of_ble_eq_true rfl) (bird2W cA h) (sa M17 0 (up (M17 0) 14 (M17 12 14))) rfl (fun M18 eM18 => ?_)
  have hz18 : (Zbird2 M18) := by rw [eM18]; exact hz17
  refine g_aload_n C (pc := 129) dX0_become_129 0 rfl ?_
  refine g_aload_n C (pc := 130) dX0_become_130 1 rfl ?_
  refine g_get C (pc := 131) inX0_become_0 rfl 15 (by decide) (List.mem_of_getElem? (i := 16) rfl) dX0_become_131 12 rfl (.int (M18 12 15)) rfl ?_
  refine g_put C (pc := 134) tyX0 tyX0_ok nmX0 inX0_become_0 rfl 15 (by decide) rfl (List.mem_of_getElem? (i := 16) rfl) dX0_become_134 rfl rfl 0 rfl (Nat.le_of_ble_eq_true rfl) (bird2W cA h) (sa M18 0 (up (M18 0) 15 (M18 12 15))) rfl (fun M19 eM19 => ?_)
  have hz19 : (Zbird2 M19) := by rw [eM19]; exact hz18
  refine g_aload_n C (pc := 137) dX0_become_137 0 rfl ?_
  refine g_aload_n C (pc := 138) dX0_become_138 1 rfl ?_
  refine g_get C (pc := 139) inX0_become_0 rfl 16 (by decide) (List.mem_of_getElem? (i := 17) rfl) dX0_become_139 12 rfl (.int (M19 12 16)) rfl ?_
  refine g_put C (pc := 142) tyX0 tyX0_ok nmX0 inX0_become_0 rfl 16 (by decide) rfl (List.mem_of_getElem? (i := 17) rfl) dX0_become_142 rfl rfl 0 rfl (Nat.le_of_ble_eq_true rfl) (bird2W cA h) (sa M19 0 (up (M19 0) 16 (M19 12 16))) rfl (fun M20 eM20 => ?_)
  have hz20 : (Zbird2 M20) := by rw [eM20]; exact hz19
  refine g_aload_n C (pc := 145) dX0_become_145 0 rfl ?_
  refine g_aload_n C (pc := 146) dX0_become_146 1 rfl ?_
  refine g_get C (pc := 147) inX0_become_0 rfl 17 (by decide) (List.mem_of_getElem? (i := 18) rfl) dX0_become_147 12 rfl (.int (M20 12 17)) rfl ?_
  refine g_put C (pc := 150) tyX0 tyX0_ok nmX0 inX0_become_0 rfl 17 (by decide) rfl (List.mem_of_getElem? (i := 18) rfl) dX0_become_150 rfl rfl 0 rfl (Nat.le_of_ble_eq_true rfl) (bird2W cA h) (sa M20 0 (up (M20 0) 17 (M20 12 17))) rfl (fun M21 eM21 => ?_)
  have hz21 : (Zbird2 M21) := by rw [eM21]; exact hz20
  exact r_ev C rfl dX0_become_153 hz21
theorem inX0_hatch_0 : ∀ w ∈ u_ws RX0 TX0 18, w ∈ wsX0_hatch := by decide +kernel
noncomputable def xX0_hatch (M : St) (p1 : Int32) (p2 : Int32) : St := nm (xX1_become 15 15 (sh2 1 2 13 M)) fun z1 => nm (put2 1 2 13 2 z1 M) fun M2 => nm (xX1_put 15 (sh 1 M2) p1 p2) fun z3 => nm (put 1 2 z3 M2) fun M4 => nm (xX2_cutTo (sh 3 M4) 0) fun z5 => nm (put 3 7 z5 M4) fun M6 => nm (xX1_clear 60 (sh 10 M6)) fun z7 => nm (put 10 2 z7 M6) fun M8 => nm (sa M8 0 (up (M8 0) 3 (M8 12 3))) fun M9 => nm (sa M9 0 (up (M9 0) 4 (xX1_at 15 (sh 1 M9) 11))) fun M10 => nm (sa M10 0 (up (M10 0) 5 (xX1_at 15 (sh 1 M10) 11))) fun M11 => nm (sa M11 0 (up (M11 0) 6 500)) fun M12 => nm (sa M12 0 (up (M12 0) 7 0)) fun M13 => nm (sa M13 0 (up (M13 0) 8 0)) fun M14 => nm (sa M14 0 (up (M14 0) 9 0)) fun M15 => nm (sa M15 0 (up (M15 0) 10 0)) fun M16 => nm (sa M16 0 (up (M16 0) 11 0)) fun M17 => nm (sa M17 0 (up (M17 0) 15 0)) fun M18 => nm (sa M18 0 (up (M18 0) 16 (-1))) fun M19 => nm (sa M19 0 (up (M19 0) 17 0)) fun M20 => nm (xX0_turn (sh 0 M20) 0) fun z21 => nm (put 0 12 z21 M20) fun M22 => M22
set_option maxHeartbeats 4000000 in
set_option maxRecDepth 100000 in
theorem kX0_hatch (l : Launch) (D : va_G) (cA : ClassId) (T : Nat × Nat × Nat) (h : Nat → Nat) (M : St) (p1 : Int32) (p2 : Int32) (hz : (Zbird2 M)) : ∀ sz : Nat, Met l yX0_hatch wsX0_hatch { frames := 2, cells := 0, slots := 0, locals := 86 } (va_Pc [.ref (h 0), .ref (h 12), .int p1, .int p2] (PreW D cA T (bird2W cA h M) sz)) (va_Qv (fun u => u = (xX0_hatch M p1 p2) ∧ (Zbird2) u) (fun u => PostW D cA (va_A (bird2W cA h M) sz) (bird2W cA h u)) (va_A (bird2W cA h M) sz)) 0 0 (va_A (bird2W cA h M) sz) := by
  refine m_ev (Wf := bird2W cA h) (inv := (Zbird2)) (cc := cX0_hatch) (maxL := 4) (own := RX0) (by decide) rfl rfl (Nat.le_of_ble_eq_true rfl) (fun {p e s m args below meth c} A C X => ?_)
  show G p l e { frames := 2, cells := 0, slots := 0, locals := 86 } s m args below meth c 0 0 D A (Qev below D cA A args s 0 0 (bird2W cA h) (Zbird2) X) 4 X (xX0_hatch M p1 p2) (bird2W cA h M) 0 [(0, .ref (h 0)), (1, .ref (h 12)), (2, .int p1), (3, .int p2)] []
  unfold xX0_hatch
  refine g_aload_n C (pc := 0) dX0_hatch_0 0 rfl ?_
  refine g_get C (pc := 1) inX0_hatch_0 rfl 0 (by decide) (List.mem_of_getElem? (i := 1) rfl) dX0_hatch_1 0 rfl (.ref (h 1)) rfl ?_
  refine g_aload_n C (pc := 4) dX0_hatch_4 1 rfl ?_
  refine g_get C (pc := 5) inX0_hatch_0 rfl 0 (by decide) (List.mem_of_getElem? (i := 1) rfl) dX0_hatch_5 12 rfl (.ref (h 13)) rfl ?_
  refine g_Vev C (pc := 8) (As := [.ref (h 13)]) (kX1_become l D cA T 15 15 (sh2 1 2 13 h) (sh2 1 2 13 M) ⟨hz.1, hz.2.2.2.2.2.1⟩) (v_bird2_cells2_1_13 cA h M) gX0_hatch_X1_become rfl ⟨rfl, rfl⟩ ⟨Nat.le_of_ble_eq_true rfl, Nat.le_of_ble_eq_true rfl⟩ ⟨Nat.zero_le _, Nat.zero_le _⟩ rfl (Nat.le_of_ble_eq_true rfl) hdV_X1_become 0 rfl rfl rfl dX0_hatch_8 (fun z1 ez1 hz_z1 => ?_)
  refine g_nmW (bird2W cA h) (fun M2 eM2 => ?_)
  have hz2 : (Zbird2 M2) := by rw [eM2]; exact ⟨hz_z1.1, hz.2.1, hz.2.2.1, hz.2.2.2.1, hz.2.2.2.2.1, hz_z1.2, hz.2.2.2.2.2.2.1, hz.2.2.2.2.2.2.2.1, hz.2.2.2.2.2.2.2.2.1, hz.2.2.2.2.2.2.2.2.2⟩
  refine g_aload_n C (pc := 11) dX0_hatch_11 0 rfl ?_
  refine g_get C (pc := 12) inX0_hatch_0 rfl 0 (by decide) (List.mem_of_getElem? (i := 1) rfl) dX0_hatch_12 0 rfl (.ref (h 1)) rfl ?_
  refine g_iload_n C (pc := 15) dX0_hatch_15 2 rfl ?_
  refine g_iload_n C (pc := 16) dX0_hatch_16 3 rfl ?_
  refine g_Vev C (pc := 17) (As := [.int p1, .int p2]) (kX1_put l D cA T 15 (sh 1 h) (sh 1 M2) p1 p2 hz2.1) (v_bird2_cells_1 cA h M2) gX0_hatch_X1_put rfl ⟨rfl, rfl⟩ ⟨Nat.le_of_ble_eq_true rfl, Nat.le_of_ble_eq_true rfl⟩ ⟨Nat.zero_le _, Nat.zero_le _⟩ rfl (Nat.le_of_ble_eq_true rfl) hdV_X1_put 0 rfl rfl rfl dX0_hatch_17 (fun z3 ez3 hz_z3 => ?_)
  refine g_nmW (bird2W cA h) (fun M4 eM4 => ?_)
  have hz4 : (Zbird2 M4) := by rw [eM4]; exact ⟨hz_z3, hz2.2.1, hz2.2.2.1, hz2.2.2.2.1, hz2.2.2.2.2.1, hz2.2.2.2.2.2.1, hz2.2.2.2.2.2.2.1, hz2.2.2.2.2.2.2.2.1, hz2.2.2.2.2.2.2.2.2.1, hz2.2.2.2.2.2.2.2.2.2⟩
  refine g_aload_n C (pc := 20) dX0_hatch_20 0 rfl ?_
  refine g_get C (pc := 21) inX0_hatch_0 rfl 1 (by decide) (List.mem_of_getElem? (i := 2) rfl) dX0_hatch_21 0 rfl (.ref (h 3)) rfl ?_
  refine g_iconst C (pc := 24) dX0_hatch_24 cI_0 ?_
  refine g_Vev C (pc := 25) (As := [.int 0]) (kX2_cutTo l D cA T (sh 3 h) (sh 3 M4) 0 ⟨hz4.2.1, hz4.2.2.1, hz4.2.2.2.1⟩) (v_bird2_hours_3 cA h M4) gX0_hatch_X2_cutTo rfl ⟨rfl, rfl⟩ ⟨Nat.le_of_ble_eq_true rfl, Nat.le_of_ble_eq_true rfl⟩ ⟨Nat.zero_le _, Nat.zero_le _⟩ rfl (Nat.le_of_ble_eq_true rfl) hdV_X2_cutTo 0 rfl rfl rfl dX0_hatch_25 (fun z5 ez5 hz_z5 => ?_)
  refine g_nmW (bird2W cA h) (fun M6 eM6 => ?_)
  have hz6 : (Zbird2 M6) := by rw [eM6]; exact ⟨hz4.1, hz_z5.1, hz_z5.2.1, hz_z5.2.2, hz4.2.2.2.2.1, hz4.2.2.2.2.2.1, hz4.2.2.2.2.2.2.1, hz4.2.2.2.2.2.2.2.1, hz4.2.2.2.2.2.2.2.2.1, hz4.2.2.2.2.2.2.2.2.2⟩
  refine g_aload_n C (pc := 28) dX0_hatch_28 0 rfl ?_
  refine g_get C (pc := 29) inX0_hatch_0 rfl 2 (by decide) (List.mem_of_getElem? (i := 3) rfl) dX0_hatch_29 0 rfl (.ref (h 10)) rfl ?_
  refine g_Vev C (pc := 32) (As := []) (kX1_clear l D cA T 60 (sh 10 h) (sh 10 M6) hz6.2.2.2.2.1) (v_bird2_cells_10 cA h M6) gX0_hatch_X1_clear rfl ⟨rfl, rfl⟩ ⟨Nat.le_of_ble_eq_true rfl, Nat.le_of_ble_eq_true rfl⟩ ⟨Nat.zero_le _, Nat.zero_le _⟩ rfl (Nat.le_of_ble_eq_true rfl) hdV_X1_clear 0 rfl rfl rfl dX0_hatch_32 (fun z7 ez7 hz_z7 => ?_)
  refine g_nmW (bird2W cA h) (fun M8 eM8 => ?_)
  have hz8 : (Zbird2 M8) := by rw [eM8]; exact ⟨hz6.1, hz6.2.1, hz6.2.2.1, hz6.2.2.2.1, hz_z7, hz6.2.2.2.2.2.1, hz6.2.2.2.2.2.2.1, hz6.2.2.2.2.2.2.2.1, hz6.2.2.2.2.2.2.2.2.1, hz6.2.2.2.2.2.2.2.2.2⟩
  refine g_aload_n C (pc := 35) dX0_hatch_35 0 rfl ?_
  refine g_aload_n C (pc := 36) dX0_hatch_36 1 rfl ?_
  refine g_get C (pc := 37) inX0_hatch_0 rfl 3 (by decide) (List.mem_of_getElem? (i := 4) rfl) dX0_hatch_37 12 rfl (.int (M8 12 3)) rfl ?_
  refine g_put C (pc := 40) tyX0 tyX0_ok nmX0 inX0_hatch_0 rfl 3 (by decide) rfl (List.mem_of_getElem? (i := 4) rfl) dX0_hatch_40 rfl rfl 0 rfl (Nat.le_of_ble_eq_true rfl) (bird2W cA h) (sa M8 0 (up (M8 0) 3 (M8 12 3))) rfl (fun M9 eM9 => ?_)
  have hz9 : (Zbird2 M9) := by rw [eM9]; exact hz8
  refine g_aload_n C (pc := 43) dX0_hatch_43 0 rfl ?_
  refine g_aload_n C (pc := 44) dX0_hatch_44 0 rfl ?_
  refine g_get C (pc := 45) inX0_hatch_0 rfl 0 (by decide) (List.mem_of_getElem? (i := 1) rfl) dX0_hatch_45 0 rfl (.ref (h 1)) rfl ?_
  refine g_bipush C (pc := 48) dX0_hatch_48 cB_11 ?_
  refine g_Vpi C (pc := 50) (As := [.int 11]) (kX1_at l D cA T 15 (sh 1 h) (sh 1 M9) 11 hz9.1) (v_bird2_cells_1 cA h M9) gX0_hatch_X1_at rfl ⟨rfl, rfl⟩ ⟨Nat.le_of_ble_eq_true rfl, Nat.le_of_ble_eq_true rfl⟩ ⟨Nat.zero_le _, Nat.zero_le _⟩ rfl (Nat.le_of_ble_eq_true rfl) hdV_X1_at 0 rfl rfl rfl dX0_hatch_50 ?_
  refine g_put C (pc := 53) tyX0 tyX0_ok nmX0 inX0_hatch_0 rfl 4 (by decide) rfl (List.mem_of_getElem? (i := 5) rfl) dX0_hatch_53 rfl rfl 0 rfl (Nat.le_of_ble_eq_true rfl) (bird2W cA h) (sa M9 0 (up (M9 0) 4 (xX1_at 15 (sh 1 M9) 11))) rfl (fun M10 eM10 => ?_)
  have hz10 : (Zbird2 M10) := by rw [eM10]; exact hz9
  refine g_aload_n C (pc := 56) dX0_hatch_56 0 rfl ?_
  refine g_aload_n C (pc := 57) dX0_hatch_57 0 rfl ?_
  refine g_get C (pc := 58) inX0_hatch_0 rfl 0 (by decide) (List.mem_of_getElem? (i := 1) rfl) dX0_hatch_58 0 rfl (.ref (h 1)) rfl ?_
  refine g_bipush C (pc := 61) dX0_hatch_61 cB_11 ?_
  refine g_Vpi C (pc := 63) (As := [.int 11]) (kX1_at l D cA T 15 (sh 1 h) (sh 1 M10) 11 hz10.1) (v_bird2_cells_1 cA h M10) gX0_hatch_X1_at rfl ⟨rfl, rfl⟩ ⟨Nat.le_of_ble_eq_true rfl, Nat.le_of_ble_eq_true rfl⟩ ⟨Nat.zero_le _, Nat.zero_le _⟩ rfl (Nat.le_of_ble_eq_true rfl) hdV_X1_at 0 rfl rfl rfl dX0_hatch_63 ?_
  refine g_put C (pc := 66) tyX0 tyX0_ok nmX0 inX0_hatch_0 rfl 5 (by decide) rfl (List.mem_of_getElem? (i := 6) rfl) dX0_hatch_66 rfl rfl 0 rfl (Nat.le_of_ble_eq_true rfl) (bird2W cA h) (sa M10 0 (up (M10 0) 5 (xX1_at 15 (sh 1 M10) 11))) rfl (fun M11 eM11 => ?_)
  have hz11 : (Zbird2 M11) := by rw [eM11]; exact hz10
  refine g_aload_n C (pc := 69) dX0_hatch_69 0 rfl ?_
  refine g_sipush C (pc := 70) dX0_hatch_70 cS_500 ?_
  refine g_put C (pc := 73) tyX0 tyX0_ok nmX0 inX0_hatch_0 rfl 6 (by decide) rfl (List.mem_of_getElem? (i := 7) rfl) dX0_hatch_73 rfl rfl 0 rfl (Nat.le_of_ble_eq_true rfl) (bird2W cA h) (sa M11 0 (up (M11 0) 6 500)) rfl (fun M12 eM12 => ?_)
  have hz12 : (Zbird2 M12) := by rw [eM12]; exact hz11
  refine g_aload_n C (pc := 76) dX0_hatch_76 0 rfl ?_
  refine g_iconst C (pc := 77) dX0_hatch_77 cI_0 ?_
  refine g_put C (pc := 78) tyX0 tyX0_ok nmX0 inX0_hatch_0 rfl 7 (by decide) rfl (List.mem_of_getElem? (i := 8) rfl) dX0_hatch_78 rfl rfl 0 rfl (Nat.le_of_ble_eq_true rfl) (bird2W cA h) (sa M12 0 (up (M12 0) 7 0)) rfl (fun M13 eM13 => ?_)
  have hz13 : (Zbird2 M13) := by rw [eM13]; exact hz12
  refine g_aload_n C (pc := 81) dX0_hatch_81 0 rfl ?_
  refine g_iconst C (pc := 82) dX0_hatch_82 cI_0 ?_
  refine g_put C (pc := 83) tyX0 tyX0_ok nmX0 inX0_hatch_0 rfl 8 (by decide) rfl (List.mem_of_getElem? (i := 9) rfl) dX0_hatch_83 rfl rfl 0 rfl (Nat.le_of_ble_eq_true rfl) (bird2W cA h) (sa M13 0 (up (M13 0) 8 0)) rfl (fun M14 eM14 => ?_)
  have hz14 : (Zbird2 M14) := by rw [eM14]; exact hz13
  refine g_aload_n C (pc := 86) dX0_hatch_86 0 rfl ?_
  refine g_iconst C (pc := 87) dX0_hatch_87 cI_0 ?_
  refine g_put C (pc := 88) tyX0 tyX0_ok nmX0 inX0_hatch_0 rfl 9 (by decide) rfl (List.mem_of_getElem? (i := 10) rfl) dX0_hatch_88 rfl rfl 0 rfl (Nat.le_of_ble_eq_true rfl) (bird2W cA h) (sa M14 0 (up (M14 0) 9 0)) rfl (fun M15 eM15 => ?_)
  have hz15 : (Zbird2 M15) := by rw [eM15]; exact hz14
  refine g_aload_n C (pc := 91) dX0_hatch_91 0 rfl ?_
  refine g_iconst C (pc := 92) dX0_hatch_92 cI_0 ?_
  refine g_put C (pc := 93) tyX0 tyX0_ok nmX0 inX0_hatch_0 rfl 10 (by decide) rfl (List.mem_of_getElem? (i := 11) rfl) dX0_hatch_93 rfl rfl 0 rfl (Nat.le_of_ble_eq_true rfl) (bird2W cA h) (sa M15 0 (up (M15 0) 10 0)) rfl (fun M16 eM16 => ?_)
  have hz16 : (Zbird2 M16) := by rw [eM16]; exact hz15
  refine g_aload_n C (pc := 96) dX0_hatch_96 0 rfl ?_
  refine g_iconst C (pc := 97) dX0_hatch_97 cI_0 ?_
  refine g_put C (pc := 98) tyX0 tyX0_ok nmX0 inX0_hatch_0 rfl 11 (by decide) rfl (List.mem_of_getElem? (i := 12) rfl) dX0_hatch_98 rfl rfl 0 rfl (Nat.le_of_ble_eq_true rfl) (bird2W cA h) (sa M16 0 (up (M16 0) 11 0)) rfl (fun M17 eM17 => ?_)
  have hz17 : (Zbird2 M17) := by rw [eM17]; exact hz16
  refine g_aload_n C (pc := 101) dX0_hatch_101 0 rfl ?_
  refine g_iconst C (pc := 102) dX0_hatch_102 cI_0 ?_
  refine g_put C (pc := 103) tyX0 tyX0_ok nmX0 inX0_hatch_0 rfl 15 (by decide) rfl (List.mem_of_getElem? (i := 13) rfl) dX0_hatch_103 rfl rfl 0 rfl (Nat.le_of_ble_eq_true rfl) (bird2W cA h) (sa M17 0 (up (M17 0) 15 0)) rfl (fun M18 eM18 => ?_)
  have hz18 : (Zbird2 M18) := by rw [eM18]; exact hz17
  refine g_aload_n C (pc := 106) dX0_hatch_106 0 rfl ?_
  refine g_iconst C (pc := 107) dX0_hatch_107 cI_m1 ?_
  refine g_put C (pc := 108) tyX0 tyX0_ok nmX0 inX0_hatch_0 rfl 16 (by decide) rfl (List.mem_of_getElem? (i := 14) rfl) dX0_hatch_108 rfl rfl 0 rfl (Nat.le_of_ble_eq_true rfl) (bird2W cA h) (sa M18 0 (up (M18 0) 16 (-1))) rfl (fun M19 eM19 => ?_)
  have hz19 : (Zbird2 M19) := by rw [eM19]; exact hz18
  refine g_aload_n C (pc := 111) dX0_hatch_111 0 rfl ?_
  refine g_iconst C (pc := 112) dX0_hatch_112 cI_0 ?_
  refine g_put C (pc := 113) tyX0 tyX0_ok nmX0 inX0_hatch_0 rfl 17 (by decide) rfl (List.mem_of_getElem? (i := 15) rfl) dX0_hatch_113 rfl rfl 0 rfl (Nat.le_of_ble_eq_true rfl) (bird2W cA h) (sa M19 0 (up (M19 0) 17 0)) rfl (fun M20 eM20 => ?_)
  have hz20 : (Zbird2 M20) := by rw [eM20]; exact hz19
  refine g_aload_n C (pc := 116) dX0_hatch_116 0 rfl ?_
  refine g_iconst C (pc := 117) dX0_hatch_117 cI_0 ?_
  refine g_Vev C (pc := 118) (As := [.int 0]) (kX0_turn l D cA T (sh 0 h) (sh 0 M20) 0 ⟨hz20.1, hz20.2.1, hz20.2.2.1, hz20.2.2.2.1, hz20.2.2.2.2.1⟩) (v_bird2_bird_0 cA h M20) gX0_hatch_X0_turn rfl ⟨rfl, rfl⟩ ⟨Nat.le_of_ble_eq_true rfl, Nat.le_of_ble_eq_true rfl⟩ ⟨Nat.zero_le _, Nat.zero_le _⟩ rfl (Nat.le_of_ble_eq_true rfl) hdV_X0_turn 0 rfl rfl rfl dX0_hatch_118 (fun z21 ez21 hz_z21 => ?_)
  refine g_nmW (bird2W cA h) (fun M22 eM22 => ?_)
  have hz22 : (Zbird2 M22) := by rw [eM22]; exact ⟨hz_z21.1, hz_z21.2.1, hz_z21.2.2.1, hz_z21.2.2.2.1, hz_z21.2.2.2.2, hz20.2.2.2.2.2.1, hz20.2.2.2.2.2.2.1, hz20.2.2.2.2.2.2.2.1, hz20.2.2.2.2.2.2.2.2.1, hz20.2.2.2.2.2.2.2.2.2⟩
  exact r_ev C rfl dX0_hatch_121 hz22
theorem inX0_with_0 : ∀ w ∈ u_ws RX0 TX0 18, w ∈ wsX0_with := by decide +kernel
noncomputable def xX0_with (M : St) (p0 : Int32) (p1 : Int32) : St := nm (xX1_put 15 (sh 1 M) p0 p1) fun z1 => nm (put 1 2 z1 M) fun M2 => M2
set_option maxHeartbeats 4000000 in
set_option maxRecDepth 100000 in
theorem kX0_with (l : Launch) (D : va_G) (cA : ClassId) (T : Nat × Nat × Nat) (h : Nat → Nat) (M : St) (p0 : Int32) (p1 : Int32) (hz : (Zbird M)) : ∀ sz : Nat, Met l yX0_with wsX0_with { frames := 1, cells := 0, slots := 0, locals := 22 } (va_Pc [.ref (h 0), .int p0, .int p1] (PreW D cA T (birdW cA h M) sz)) (va_Qr (fun u => u = (xX0_with M p0 p1) ∧ (Zbird) u) (fun u a t => a = (h 0) ∧ PostW D cA (va_A (birdW cA h M) sz) (birdW cA h u) t) (va_A (birdW cA h M) sz)) 0 0 (va_A (birdW cA h M) sz) := by
  refine m_er (Wf := birdW cA h) (inv := (Zbird)) (a0 := (h 0)) (cc := cX0_with) (maxL := 3) (own := RX0) (by decide) rfl rfl (Nat.le_of_ble_eq_true rfl) (fun {p e s m args below meth c} A C X => ?_)
  show G p l e { frames := 1, cells := 0, slots := 0, locals := 22 } s m args below meth c 0 0 D A (Qer below D cA A args s 0 0 (h 0) (birdW cA h) (Zbird) X) 3 X (xX0_with M p0 p1) (birdW cA h M) 0 [(0, .ref (h 0)), (1, .int p0), (2, .int p1)] []
  unfold xX0_with
  refine g_aload_n C (pc := 0) dX0_with_0 0 rfl ?_
  refine g_get C (pc := 1) inX0_with_0 rfl 0 (by decide) (List.mem_of_getElem? (i := 1) rfl) dX0_with_1 0 rfl (.ref (h 1)) rfl ?_
  refine g_iload_n C (pc := 4) dX0_with_4 1 rfl ?_
  refine g_iload_n C (pc := 5) dX0_with_5 2 rfl ?_
  refine g_Vev C (pc := 6) (As := [.int p0, .int p1]) (kX1_put l D cA T 15 (sh 1 h) (sh 1 M) p0 p1 hz.1) (v_bird_cells_1 cA h M) gX0_with_X1_put rfl ⟨rfl, rfl⟩ ⟨Nat.le_of_ble_eq_true rfl, Nat.le_of_ble_eq_true rfl⟩ ⟨Nat.zero_le _, Nat.zero_le _⟩ rfl (Nat.le_of_ble_eq_true rfl) hdV_X1_put 0 rfl rfl rfl dX0_with_6 (fun z1 ez1 hz_z1 => ?_)
  refine g_nmW (birdW cA h) (fun M2 eM2 => ?_)
  have hz2 : (Zbird M2) := by rw [eM2]; exact ⟨hz_z1, hz.2.1, hz.2.2.1, hz.2.2.2.1, hz.2.2.2.2⟩
  refine g_aload_n C (pc := 9) dX0_with_9 0 rfl ?_
  exact r_er C rfl dX0_with_10 hz2
