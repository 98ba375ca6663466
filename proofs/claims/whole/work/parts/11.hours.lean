theorem inX2_size_2 : ∀ w ∈ u_ws RX2 TX2 3, w ∈ wsX2_size := by decide +kernel
noncomputable def xX2_size (M : St) : Int32 := (xX1_size 20 (sh 1 M))
set_option maxHeartbeats 4000000 in
set_option maxRecDepth 100000 in
theorem kX2_size (l : Launch) (D : va_G) (cA : ClassId) (T : Nat × Nat × Nat) (h : Nat → Nat) (M : St) (hz : (Zhours M)) : ∀ sz : Nat, Met l yX2_size wsX2_size { frames := 1, cells := 0, slots := 0, locals := 20 } (va_Pc [.ref (h 0)] (PreW D cA T (hoursW cA h M) sz)) (va_Qi (fun r (_ : Unit) => r = (xX2_size M)) (fun _ => PostW D cA (va_A (hoursW cA h M) sz) (hoursW cA h M)) (va_A (hoursW cA h M) sz)) 0 0 (va_A (hoursW cA h M) sz) := by
  refine m_pi (cc := cX2_size) (maxL := 1) (own := RX2) (by decide) rfl rfl (Nat.le_of_ble_eq_true rfl) (fun {p e s m args below meth c} A C X => ?_)
  show G p l e { frames := 1, cells := 0, slots := 0, locals := 20 } s m args below meth c 0 0 D A (Qpi below D cA A args s (hoursW cA h M) X) 1 X (xX2_size M) (hoursW cA h M) 0 [(0, .ref (h 0))] []
  unfold xX2_size
  refine g_aload_n C (pc := 0) dX2_size_0 0 rfl ?_
  refine g_get C (pc := 1) inX2_size_2 rfl 0 (by decide) (List.mem_of_getElem? (i := 1) rfl) dX2_size_1 0 rfl (.ref (h 1)) rfl ?_
  refine g_Vpi C (pc := 4) (As := []) (kX1_size l D cA T 20 (sh 1 h) (sh 1 M) hz.1) (v_hours_cells_1 cA h M) gX2_size_X1_size rfl ⟨rfl, rfl⟩ ⟨Nat.le_of_ble_eq_true rfl, Nat.le_of_ble_eq_true rfl⟩ ⟨Nat.zero_le _, Nat.zero_le _⟩ rfl (Nat.le_of_ble_eq_true rfl) hdV_X1_size 0 rfl rfl rfl dX2_size_4 ?_
  exact r_pi C rfl dX2_size_7
theorem inX2_add_2 : ∀ w ∈ u_ws RX2 TX2 3, w ∈ wsX2_add := by decide +kernel
noncomputable def xX2_add (M : St) (p0 : Int32) (p1 : Int32) (p2 : Int32) : St := nm (xX1_add 20 (sh 1 M) p0) fun z1 => nm (put 1 2 z1 M) fun M2 => nm (xX1_add 20 (sh 3 M2) p1) fun z3 => nm (put 3 2 z3 M2) fun M4 => nm (xX1_add 20 (sh 5 M4) p2) fun z5 => nm (put 5 2 z5 M4) fun M6 => M6
set_option maxHeartbeats 4000000 in
set_option maxRecDepth 100000 in
theorem kX2_add (l : Launch) (D : va_G) (cA : ClassId) (T : Nat × Nat × Nat) (h : Nat → Nat) (M : St) (p0 : Int32) (p1 : Int32) (p2 : Int32) (hz : (Zhours M)) : ∀ sz : Nat, Met l yX2_add wsX2_add { frames := 1, cells := 0, slots := 0, locals := 21 } (va_Pc [.ref (h 0), .int p0, .int p1, .int p2] (PreW D cA T (hoursW cA h M) sz)) (va_Qv (fun u => u = (xX2_add M p0 p1 p2) ∧ (Zhours) u) (fun u => PostW D cA (va_A (hoursW cA h M) sz) (hoursW cA h u)) (va_A (hoursW cA h M) sz)) 0 0 (va_A (hoursW cA h M) sz) := by
  refine m_ev (Wf := hoursW cA h) (inv := (Zhours)) (cc := cX2_add) (maxL := 4) (own := RX2) (by decide) rfl rfl (Nat.le_of_ble_eq_true rfl) (fun {p e s m args below meth c} A C X => ?_)
  show G p l e { frames := 1, cells := 0, slots := 0, locals := 21 } s m args below meth c 0 0 D A (Qev below D cA A args s 0 0 (hoursW cA h) (Zhours) X) 4 X (xX2_add M p0 p1 p2) (hoursW cA h M) 0 [(0, .ref (h 0)), (1, .int p0), (2, .int p1), (3, .int p2)] []
  unfold xX2_add
  refine g_aload_n C (pc := 0) dX2_add_0 0 rfl ?_
  refine g_get C (pc := 1) inX2_add_2 rfl 0 (by decide) (List.mem_of_getElem? (i := 1) rfl) dX2_add_1 0 rfl (.ref (h 1)) rfl ?_
  refine g_iload_n C (pc := 4) dX2_add_4 1 rfl ?_
  refine g_Vev C (pc := 5) (As := [.int p0]) (kX1_add l D cA T 20 (sh 1 h) (sh 1 M) p0 hz.1) (v_hours_cells_1 cA h M) gX2_add_X1_add rfl ⟨rfl, rfl⟩ ⟨Nat.le_of_ble_eq_true rfl, Nat.le_of_ble_eq_true rfl⟩ ⟨Nat.zero_le _, Nat.zero_le _⟩ rfl (Nat.le_of_ble_eq_true rfl) hdV_X1_add 0 rfl rfl rfl dX2_add_5 (fun z1 ez1 hz_z1 => ?_)
  refine g_nmW (hoursW cA h) (fun M2 eM2 => ?_)
  have hz2 : (Zhours M2) := by rw [eM2]; exact ⟨hz_z1, hz.2.1, hz.2.2⟩
  refine g_aload_n C (pc := 8) dX2_add_8 0 rfl ?_
  refine g_get C (pc := 9) inX2_add_2 rfl 1 (by decide) (List.mem_of_getElem? (i := 2) rfl) dX2_add_9 0 rfl (.ref (h 3)) rfl ?_
  refine g_iload_n C (pc := 12) dX2_add_12 2 rfl ?_
  refine g_Vev C (pc := 13) (As := [.int p1]) (kX1_add l D cA T 20 (sh 3 h) (sh 3 M2) p1 hz2.2.1) (v_hours_cells_3 cA h M2) gX2_add_X1_add rfl ⟨rfl, rfl⟩ ⟨Nat.le_of_ble_eq_true rfl, Nat.le_of_ble_eq_true rfl⟩ ⟨Nat.zero_le _, Nat.zero_le _⟩ rfl (Nat.le_of_ble_eq_true rfl) hdV_X1_add 0 rfl rfl rfl dX2_add_13 (fun z3 ez3 hz_z3 => ?_)
  refine g_nmW (hoursW cA h) (fun M4 eM4 => ?_)
  have hz4 : (Zhours M4) := by rw [eM4]; exact ⟨hz2.1, hz_z3, hz2.2.2⟩
  refine g_aload_n C (pc := 16) dX2_add_16 0 rfl ?_
  refine g_get C (pc := 17) inX2_add_2 rfl 2 (by decide) (List.mem_of_getElem? (i := 3) rfl) dX2_add_17 0 rfl (.ref (h 5)) rfl ?_
  refine g_iload_n C (pc := 20) dX2_add_20 3 rfl ?_
  refine g_Vev C (pc := 21) (As := [.int p2]) (kX1_add l D cA T 20 (sh 5 h) (sh 5 M4) p2 hz4.2.2) (v_hours_cells_5 cA h M4) gX2_add_X1_add rfl ⟨rfl, rfl⟩ ⟨Nat.le_of_ble_eq_true rfl, Nat.le_of_ble_eq_true rfl⟩ ⟨Nat.zero_le _, Nat.zero_le _⟩ rfl (Nat.le_of_ble_eq_true rfl) hdV_X1_add 0 rfl rfl rfl dX2_add_21 (fun z5 ez5 hz_z5 => ?_)
  refine g_nmW (hoursW cA h) (fun M6 eM6 => ?_)
  have hz6 : (Zhours M6) := by rw [eM6]; exact ⟨hz4.1, hz4.2.1, hz_z5⟩
  exact r_ev C rfl dX2_add_24 hz6
theorem inX2_cutTo_2 : ∀ w ∈ u_ws RX2 TX2 3, w ∈ wsX2_cutTo := by decide +kernel
noncomputable def xX2_cutTo (M : St) (p0 : Int32) : St := nm (xX1_cutTo 20 (sh 1 M) p0) fun z1 => nm (put 1 2 z1 M) fun M2 => nm (xX1_cutTo 20 (sh 3 M2) p0) fun z3 => nm (put 3 2 z3 M2) fun M4 => nm (xX1_cutTo 20 (sh 5 M4) p0) fun z5 => nm (put 5 2 z5 M4) fun M6 => M6
set_option maxHeartbeats 4000000 in
set_option maxRecDepth 100000 in
theorem kX2_cutTo (l : Launch) (D : va_G) (cA : ClassId) (T : Nat × Nat × Nat) (h : Nat → Nat) (M : St) (p0 : Int32) (hz : (Zhours M)) : ∀ sz : Nat, Met l yX2_cutTo wsX2_cutTo { frames := 1, cells := 0, slots := 0, locals := 21 } (va_Pc [.ref (h 0), .int p0] (PreW D cA T (hoursW cA h M) sz)) (va_Qv (fun u => u = (xX2_cutTo M p0) ∧ (Zhours) u) (fun u => PostW D cA (va_A (hoursW cA h M) sz) (hoursW cA h u)) (va_A (hoursW cA h M) sz)) 0 0 (va_A (hoursW cA h M) sz) := by
  refine m_ev (Wf := hoursW cA h) (inv := (Zhours)) (cc := cX2_cutTo) (maxL := 2) (own := RX2) (by decide) rfl rfl (Nat.le_of_ble_eq_true rfl) (fun {p e s m args below meth c} A C X => ?_)
  show G p l e { frames := 1, cells := 0, slots := 0, locals := 21 } s m args below meth c 0 0 D A (Qev below D cA A args s 0 0 (hoursW cA h) (Zhours) X) 2 X (xX2_cutTo M p0) (hoursW cA h M) 0 [(0, .ref (h 0)), (1, .int p0)] []
  unfold xX2_cutTo
  refine g_aload_n C (pc := 0) dX2_cutTo_0 0 rfl ?_
  refine g_get C (pc := 1) inX2_cutTo_2 rfl 0 (by decide) (List.mem_of_getElem? (i := 1) rfl) dX2_cutTo_1 0 rfl (.ref (h 1)) rfl ?_
  refine g_iload_n C (pc := 4) dX2_cutTo_4 1 rfl ?_
  refine g_Vev C (pc := 5) (As := [.int p0]) (kX1_cutTo l D cA T 20 (sh 1 h) (sh 1 M) p0 hz.1) (v_hours_cells_1 cA h M) gX2_cutTo_X1_cutTo rfl ⟨rfl, rfl⟩ ⟨Nat.le_of_ble_eq_true rfl, Nat.le_of_ble_eq_true rfl⟩ ⟨Nat.zero_le _, Nat.zero_le _⟩ rfl (Nat.le_of_ble_eq_true rfl) hdV_X1_cutTo 0 rfl rfl rfl dX2_cutTo_5 (fun z1 ez1 hz_z1 => ?_)
  refine g_nmW (hoursW cA h) (fun M2 eM2 => ?_)
  have hz2 : (Zhours M2) := by rw [eM2]; exact ⟨hz_z1, hz.2.1, hz.2.2⟩
  refine g_aload_n C (pc := 8) dX2_cutTo_8 0 rfl ?_
  refine g_get C (pc := 9) inX2_cutTo_2 rfl 1 (by decide) (List.mem_of_getElem? (i := 2) rfl) dX2_cutTo_9 0 rfl (.ref (h 3)) rfl ?_
  refine g_iload_n C (pc := 12) dX2_cutTo_12 1 rfl ?_
  refine g_Vev C (pc := 13) (As := [.int p0]) (kX1_cutTo l D cA T 20 (sh 3 h) (sh 3 M2) p0 hz2.2.1) (v_hours_cells_3 cA h M2) gX2_cutTo_X1_cutTo rfl ⟨rfl, rfl⟩ ⟨Nat.le_of_ble_eq_true rfl, Nat.le_of_ble_eq_true rfl⟩ ⟨Nat.zero_le _, Nat.zero_le _⟩ rfl (Nat.le_of_ble_eq_true rfl) hdV_X1_cutTo 0 rfl rfl rfl dX2_cutTo_13 (fun z3 ez3 hz_z3 => ?_)
  refine g_nmW (hoursW cA h) (fun M4 eM4 => ?_)
  have hz4 : (Zhours M4) := by rw [eM4]; exact ⟨hz2.1, hz_z3, hz2.2.2⟩
  refine g_aload_n C (pc := 16) dX2_cutTo_16 0 rfl ?_
  refine g_get C (pc := 17) inX2_cutTo_2 rfl 2 (by decide) (List.mem_of_getElem? (i := 3) rfl) dX2_cutTo_17 0 rfl (.ref (h 5)) rfl ?_
  refine g_iload_n C (pc := 20) dX2_cutTo_20 1 rfl ?_
  refine g_Vev C (pc := 21) (As := [.int p0]) (kX1_cutTo l D cA T 20 (sh 5 h) (sh 5 M4) p0 hz4.2.2) (v_hours_cells_5 cA h M4) gX2_cutTo_X1_cutTo rfl ⟨rfl, rfl⟩ ⟨Nat.le_of_ble_eq_true rfl, Nat.le_of_ble_eq_true rfl⟩ ⟨Nat.zero_le _, Nat.zero_le _⟩ rfl (Nat.le_of_ble_eq_true rfl) hdV_X1_cutTo 0 rfl rfl rfl dX2_cutTo_21 (fun z5 ez5 hz_z5 => ?_)
  refine g_nmW (hoursW cA h) (fun M6 eM6 => ?_)
  have hz6 : (Zhours M6) := by rw [eM6]; exact ⟨hz4.1, hz4.2.1, hz_z5⟩
  exact r_ev C rfl dX2_cutTo_24 hz6
theorem inX2_become_2 : ∀ w ∈ u_ws RX2 TX2 3, w ∈ wsX2_become := by decide +kernel
noncomputable def xX2_become (M : St) : St := nm (xX1_become 20 20 (sh2 1 2 8 M)) fun z1 => nm (put2 1 2 8 2 z1 M) fun M2 => nm (xX1_become 20 20 (sh2 3 2 10 M2)) fun z3 => nm (put2 3 2 10 2 z3 M2) fun M4 => nm (xX1_become 20 20 (sh2 5 2 12 M4)) fun z5 => nm (put2 5 2 12 2 z5 M4) fun M6 => M6
set_option maxHeartbeats 4000000 in
set_option maxRecDepth 100000 in
theorem kX2_become (l : Launch) (D : va_G) (cA : ClassId) (T : Nat × Nat × Nat) (h : Nat → Nat) (M : St) (hz : (Zhours2 M)) : ∀ sz : Nat, Met l yX2_become wsX2_become { frames := 2, cells := 0, slots := 0, locals := 86 } (va_Pc [.ref (h 0), .ref (h 7)] (PreW D cA T (hours2W cA h M) sz)) (va_Qv (fun u => u = (xX2_become M) ∧ (Zhours2) u) (fun u => PostW D cA (va_A (hours2W cA h M) sz) (hours2W cA h u)) (va_A (hours2W cA h M) sz)) 0 0 (va_A (hours2W cA h M) sz) := by
  refine m_ev (Wf := hours2W cA h) (inv := (Zhours2)) (cc := cX2_become) (maxL := 2) (own := RX2) (by decide) rfl rfl (Nat.le_of_ble_eq_true rfl) (fun {p e s m args below meth c} A C X => ?_)
  show G p l e { frames := 2, cells := 0, slots := 0, locals := 86 } s m args below meth c 0 0 D A (Qev below D cA A args s 0 0 (hours2W cA h) (Zhours2) X) 2 X (xX2_become M) (hours2W cA h M) 0 [(0, .ref (h 0)), (1, .ref (h 7))] []
  unfold xX2_become
  refine g_aload_n C (pc := 0) dX2_become_0 0 rfl ?_
  refine g_get C (pc := 1) inX2_become_2 rfl 0 (by decide) (List.mem_of_getElem? (i := 1) rfl) dX2_become_1 0 rfl (.ref (h 1)) rfl ?_
  refine g_aload_n C (pc := 4) dX2_become_4 1 rfl ?_
  refine g_get C (pc := 5) inX2_become_2 rfl 0 (by decide) (List.mem_of_getElem? (i := 1) rfl) dX2_become_5 7 rfl (.ref (h 8)) rfl ?_
  refine g_Vev C (pc := 8) (As := [.ref (h 8)]) (kX1_become l D cA T 20 20 (sh2 1 2 8 h) (sh2 1 2 8 M) ⟨hz.1, hz.2.2.2.1⟩) (v_hours2_cells2_1_8 cA h M) gX2_become_X1_become rfl ⟨rfl, rfl⟩ ⟨Nat.le_of_ble_eq_true rfl, Nat.le_of_ble_eq_true rfl⟩ ⟨Nat.zero_le _, Nat.zero_le _⟩ rfl (Nat.le_of_ble_eq_true rfl) hdV_X1_become 0 rfl rfl rfl dX2_become_8 (fun z1 ez1 hz_z1 => ?_)
  refine g_nmW (hours2W cA h) (fun M2 eM2 => ?_)
  have hz2 : (Zhours2 M2) := by rw [eM2]; exact ⟨hz_z1.1, hz.2.1, hz.2.2.1, hz_z1.2, hz.2.2.2.2.1, hz.2.2.2.2.2⟩
  refine g_aload_n C (pc := 11) dX2_become_11 0 rfl ?_
  refine g_get C (pc := 12) inX2_become_2 rfl 1 (by decide) (List.mem_of_getElem? (i := 2) rfl) dX2_become_12 0 rfl (.ref (h 3)) rfl ?_
  refine g_aload_n C (pc := 15) dX2_become_15 1 rfl ?_
  refine g_get C (pc := 16) inX2_become_2 rfl 1 (by decide) (List.mem_of_getElem? (i := 2) rfl) dX2_become_16 7 rfl (.ref (h 10)) rfl ?_
  refine g_Vev C (pc := 19) (As := [.ref (h 10)]) (kX1_become l D cA T 20 20 (sh2 3 2 10 h) (sh2 3 2 10 M2) ⟨hz2.2.1, hz2.2.2.2.2.1⟩) (v_hours2_cells2_3_10 cA h M2) gX2_become_X1_become rfl ⟨rfl, rfl⟩ ⟨Nat.le_of_ble_eq_true rfl, Nat.le_of_ble_eq_true rfl⟩ ⟨Nat.zero_le _, Nat.zero_le _⟩ rfl (Nat.le_of_ble_eq_true rfl) hdV_X1_become 0 rfl rfl rfl dX2_become_19 (fun z3 ez3 hz_z3 => ?_)
  refine g_nmW (hours2W cA h) (fun M4 eM4 => ?_)
  have hz4 : (Zhours2 M4) := by rw [eM4]; exact ⟨hz2.1, hz_z3.1, hz2.2.2.1, hz2.2.2.2.1, hz_z3.2, hz2.2.2.2.2.2⟩
  refine g_aload_n C (pc := 22) dX2_become_22 0 rfl ?_
  refine g_get C (pc := 23) inX2_become_2 rfl 2 (by decide) (List.mem_of_getElem? (i := 3) rfl) dX2_become_23 0 rfl (.ref (h 5)) rfl ?_
  refine g_aload_n C (pc := 26) dX2_become_26 1 rfl ?_
  refine g_get C (pc := 27) inX2_become_2 rfl 2 (by decide) (List.mem_of_getElem? (i := 3) rfl) dX2_become_27 7 rfl (.ref (h 12)) rfl ?_
  refine g_Vev C (pc := 30) (As := [.ref (h 12)]) (kX1_become l D cA T 20 20 (sh2 5 2 12 h) (sh2 5 2 12 M4) ⟨hz4.2.2.1, hz4.2.2.2.2.2⟩) (v_hours2_cells2_5_12 cA h M4) gX2_become_X1_become rfl ⟨rfl, rfl⟩ ⟨Nat.le_of_ble_eq_true rfl, Nat.le_of_ble_eq_true rfl⟩ ⟨Nat.zero_le _, Nat.zero_le _⟩ rfl (Nat.le_of_ble_eq_true rfl) hdV_X1_become 0 rfl rfl rfl dX2_become_30 (fun z5 ez5 hz_z5 => ?_)
  refine g_nmW (hours2W cA h) (fun M6 eM6 => ?_)
  have hz6 : (Zhours2 M6) := by rw [eM6]; exact ⟨hz4.1, hz4.2.1, hz_z5.1, hz4.2.2.2.1, hz4.2.2.2.2.1, hz_z5.2⟩
  exact r_ev C rfl dX2_become_33 hz6
theorem inX2_valueOf_2 : ∀ w ∈ u_ws RX2 TX2 3, w ∈ wsX2_valueOf := by decide +kernel
noncomputable def xX2_valueOf_l9 : Nat → St → Int32 → Int32 → Int32 → Int32 → Int32 → Int32
  | 0, M, _, _, _, _, _ => (0)
  | k + 1, M, p0, p1, v2, v3, v4 => if (xX1_size 20 (sh 1 M)) ≤ v4 then (v2) else (nm ((xX1_at 20 (sh 3 M) v4) : Int32) fun x6 => if (xX1_at 20 (sh 1 M) v4) = p0 then (if p1 < x6 then (nm (v4 + 1 : Int32) fun x10 => xX2_valueOf_l9 k M p0 p1 v2 v3 x10) else (if x6 < v3 then (nm (v4 + 1 : Int32) fun x12 => xX2_valueOf_l9 k M p0 p1 v2 v3 x12) else (nm ((xX1_at 20 (sh 5 M) v4) : Int32) fun x13 => nm (v4 + 1 : Int32) fun x14 => xX2_valueOf_l9 k M p0 p1 x13 x6 x14))) else (nm (v4 + 1 : Int32) fun x8 => xX2_valueOf_l9 k M p0 p1 v2 v3 x8))
noncomputable def xX2_valueOf (M : St) (p0 : Int32) (p1 : Int32) (p2 : Int32) : Int32 := nm ((-1) : Int32) fun x1 => xX2_valueOf_l9 (mu 0 (xX1_size 20 (sh 1 M)) + 1) M p0 p1 p2 x1 0
set_option maxHeartbeats 4000000 in
set_option maxRecDepth 100000 in
theorem kX2_valueOf (l : Launch) (D : va_G) (cA : ClassId) (T : Nat × Nat × Nat) (h : Nat → Nat) (M : St) (p0 : Int32) (p1 : Int32) (p2 : Int32) (hz : (Zhours M)) : ∀ sz : Nat, Met l yX2_valueOf wsX2_valueOf { frames := 1, cells := 0, slots := 0, locals := 21 } (va_Pc [.ref (h 0), .int p0, .int p1, .int p2] (PreW D cA T (hoursW cA h M) sz)) (va_Qi (fun r (_ : Unit) => r = (xX2_valueOf M p0 p1 p2)) (fun _ => PostW D cA (va_A (hoursW cA h M) sz) (hoursW cA h M)) (va_A (hoursW cA h M) sz)) 0 0 (va_A (hoursW cA h M) sz) := by
  refine m_pi (cc := cX2_valueOf) (maxL := 8) (own := RX2) (by decide) rfl rfl (Nat.le_of_ble_eq_true rfl) (fun {p e s m args below meth c} A C X => ?_)
  show G p l e { frames := 1, cells := 0, slots := 0, locals := 21 } s m args below meth c 0 0 D A (Qpi below D cA A args s (hoursW cA h M) X) 8 X (xX2_valueOf M p0 p1 p2) (hoursW cA h M) 0 [(0, .ref (h 0)), (1, .int p0), (2, .int p1), (3, .int p2)] []
  unfold xX2_valueOf
  refine g_iload_n C (pc := 0) dX2_valueOf_0 3 rfl ?_
  refine g_istore C (pc := 1) [(4, .int p2), (0, .ref (h 0)), (1, .int p0), (2, .int p1), (3, .int p2)] dX2_valueOf_1 (by decide) rfl ?_
  refine g_iconst C (pc := 3) dX2_valueOf_3 cI_m1 ?_
  refine g_nmi (fun x1 ex1 => ?_)
  refine g_istore C (pc := 4) [(5, .int x1), (4, .int p2), (0, .ref (h 0)), (1, .int p0), (2, .int p1), (3, .int p2)] dX2_valueOf_4 (by decide) rfl ?_
  refine g_iconst C (pc := 6) dX2_valueOf_6 cI_0 ?_
  refine g_istore C (pc := 7) [(6, .int 0), (5, .int x1), (4, .int p2), (0, .ref (h 0)), (1, .int p0), (2, .int p1), (3, .int p2)] dX2_valueOf_7 (by decide) rfl ?_
  have L9 : ∀ (k : Nat) (v2 : Int32) (v3 : Int32) (v4 : Int32), mu v4 (xX1_size 20 (sh 1 M)) < k → G p l e { frames := 1, cells := 0, slots := 0, locals := 21 } s m args below meth c 0 0 D A (Qpi below D cA A args s (hoursW cA h M) X) 8 X (xX2_valueOf_l9 k M p0 p1 v2 v3 v4) (hoursW cA h M) 9 [(0, .ref (h 0)), (1, .int p0), (2, .int p1), (4, .int v2), (5, .int v3), (6, .int v4)] [] := by
    intro k
    induction k with
    | zero => intro v2 v3 v4 hmu; exact absurd hmu (Nat.not_lt_zero _)
    | succ k ih =>
      intro v2 v3 v4 hmu
      rw [xX2_valueOf_l9]
      refine g_iload C (pc := 9) dX2_valueOf_9 5 rfl ?_
      refine g_aload_n C (pc := 11) dX2_valueOf_11 0 rfl ?_
      refine g_get C (pc := 12) inX2_valueOf_2 rfl 0 (by decide) (List.mem_of_getElem? (i := 1) rfl) dX2_valueOf_12 0 rfl (.ref (h 1)) rfl ?_
      refine g_Vpi C (pc := 15) (As := []) (kX1_size l D cA T 20 (sh 1 h) (sh 1 M) hz.1) (v_hours_cells_1 cA h M) gX2_valueOf_X1_size rfl ⟨rfl, rfl⟩ ⟨Nat.le_of_ble_eq_true rfl, Nat.le_of_ble_eq_true rfl⟩ ⟨Nat.zero_le _, Nat.zero_le _⟩ rfl (Nat.le_of_ble_eq_true rfl) hdV_X1_size 0 rfl rfl rfl dX2_valueOf_15 ?_
      refine g_icmp_ge C (pc := 18) 79 dX2_valueOf_18 (by decide) (fun c5 => ?_) (fun c5 => ?_)
      · refine g_iload C (pc := 79) dX2_valueOf_79 3 rfl ?_
        exact r_pi C rfl dX2_valueOf_81
      · refine g_aload_n C (pc := 21) dX2_valueOf_21 0 rfl ?_
        refine g_get C (pc := 22) inX2_valueOf_2 rfl 1 (by decide) (List.mem_of_getElem? (i := 2) rfl) dX2_valueOf_22 0 rfl (.ref (h 3)) rfl ?_
        refine g_iload C (pc := 25) dX2_valueOf_25 5 rfl ?_
        refine g_Vpi C (pc := 27) (As := [.int v4]) (kX1_at l D cA T 20 (sh 3 h) (sh 3 M) v4 hz.2.1) (v_hours_cells_3 cA h M) gX2_valueOf_X1_at rfl ⟨rfl, rfl⟩ ⟨Nat.le_of_ble_eq_true rfl, Nat.le_of_ble_eq_true rfl⟩ ⟨Nat.zero_le _, Nat.zero_le _⟩ rfl (Nat.le_of_ble_eq_true rfl) hdV_X1_at 0 rfl rfl rfl dX2_valueOf_27 ?_
        refine g_nmi (fun x6 ex6 => ?_)
        refine g_istore C (pc := 30) [(7, .int x6), (0, .ref (h 0)), (1, .int p0), (2, .int p1), (4, .int v2), (5, .int v3), (6, .int v4)] dX2_valueOf_30 (by decide) rfl ?_
        refine g_aload_n C (pc := 32) dX2_valueOf_32 1 rfl ?_
        refine g_get C (pc := 33) inX2_valueOf_2 rfl 0 (by decide) (List.mem_of_getElem? (i := 1) rfl) dX2_valueOf_33 0 rfl (.ref (h 1)) rfl ?_
        refine g_iload C (pc := 36) dX2_valueOf_36 6 rfl ?_
        refine g_Vpi C (pc := 38) (As := [.int v4]) (kX1_at l D cA T 20 (sh 1 h) (sh 1 M) v4 hz.1) (v_hours_cells_1 cA h M) gX2_valueOf_X1_at rfl ⟨rfl, rfl⟩ ⟨Nat.le_of_ble_eq_true rfl, Nat.le_of_ble_eq_true rfl⟩ ⟨Nat.zero_le _, Nat.zero_le _⟩ rfl (Nat.le_of_ble_eq_true rfl) hdV_X1_at 0 rfl rfl rfl dX2_valueOf_38 ?_
        refine g_iload_n C (pc := 41) dX2_valueOf_41 2 rfl ?_
        refine g_icmp_ne C (pc := 42) 73 dX2_valueOf_42 (by decide) (fun c7 => ?_) (fun c7 => ?_)
        · refine g_iincN C (pc := 73) 1 (fun y => [(6, .int y), (7, .int x6), (0, .ref (h 0)), (1, .int p0), (2, .int p1), (4, .int v2), (5, .int v3)]) dX2_valueOf_73 6 rfl cI_1 (by decide) (fun _ => rfl) (fun x8 ex8 => ?_)
          refine g_goto C (pc := 76) 9 dX2_valueOf_76 (by decide) ?_
          refine g_sub [2, 3, 4, 5, 6, 0] rfl ?_
          exact ih v2 v3 x8 (by rw [ex8]; exact lp_dec c5 hmu)
        · refine g_iload C (pc := 45) dX2_valueOf_45 0 rfl ?_
          refine g_iload_n C (pc := 47) dX2_valueOf_47 3 rfl ?_
          refine g_icmp_gt C (pc := 48) 73 dX2_valueOf_48 (by decide) (fun c9 => ?_) (fun c9 => ?_)
          · refine g_iincN C (pc := 73) 1 (fun y => [(6, .int y), (7, .int x6), (0, .ref (h 0)), (1, .int p0), (2, .int p1), (4, .int v2), (5, .int v3)]) dX2_valueOf_73 6 rfl cI_1 (by decide) (fun _ => rfl) (fun x10 ex10 => ?_)
            refine g_goto C (pc := 76) 9 dX2_valueOf_76 (by decide) ?_
            refine g_sub [2, 3, 4, 5, 6, 0] rfl ?_
            exact ih v2 v3 x10 (by rw [ex10]; exact lp_dec c5 hmu)
          · refine g_iload C (pc := 51) dX2_valueOf_51 0 rfl ?_
            refine g_iload C (pc := 53) dX2_valueOf_53 5 rfl ?_
            refine g_icmp_lt C (pc := 55) 73 dX2_valueOf_55 (by decide) (fun c11 => ?_) (fun c11 => ?_)
            · refine g_iincN C (pc := 73) 1 (fun y => [(6, .int y), (7, .int x6), (0, .ref (h 0)), (1, .int p0), (2, .int p1), (4, .int v2), (5, .int v3)]) dX2_valueOf_73 6 rfl cI_1 (by decide) (fun _ => rfl) (fun x12 ex12 => ?_)
              refine g_goto C (pc := 76) 9 dX2_valueOf_76 (by decide) ?_
              refine g_sub [2, 3, 4, 5, 6, 0] rfl ?_
              exact ih v2 v3 x12 (by rw [ex12]; exact lp_dec c5 hmu)
            · refine g_iload C (pc := 58) dX2_valueOf_58 0 rfl ?_
              refine g_istore C (pc := 60) [(5, .int x6), (7, .int x6), (0, .ref (h 0)), (1, .int p0), (2, .int p1), (4, .int v2), (6, .int v4)] dX2_valueOf_60 (by decide) rfl ?_
              refine g_aload_n C (pc := 62) dX2_valueOf_62 2 rfl ?_
              refine g_get C (pc := 63) inX2_valueOf_2 rfl 2 (by decide) (List.mem_of_getElem? (i := 3) rfl) dX2_valueOf_63 0 rfl (.ref (h 5)) rfl ?_
              refine g_iload C (pc := 66) dX2_valueOf_66 6 rfl ?_
              refine g_Vpi C (pc := 68) (As := [.int v4]) (kX1_at l D cA T 20 (sh 5 h) (sh 5 M) v4 hz.2.2) (v_hours_cells_5 cA h M) gX2_valueOf_X1_at rfl ⟨rfl, rfl⟩ ⟨Nat.le_of_ble_eq_true rfl, Nat.le_of_ble_eq_true rfl⟩ ⟨Nat.zero_le _, Nat.zero_le _⟩ rfl (Nat.le_of_ble_eq_true rfl) hdV_X1_at 0 rfl rfl rfl dX2_valueOf_68 ?_
              refine g_nmi (fun x13 ex13 => ?_)
              refine g_istore C (pc := 71) [(4, .int x13), (5, .int x6), (7, .int x6), (0, .ref (h 0)), (1, .int p0), (2, .int p1), (6, .int v4)] dX2_valueOf_71 (by decide) rfl ?_
              refine g_iincN C (pc := 73) 1 (fun y => [(6, .int y), (4, .int x13), (5, .int x6), (7, .int x6), (0, .ref (h 0)), (1, .int p0), (2, .int p1)]) dX2_valueOf_73 6 rfl cI_1 (by decide) (fun _ => rfl) (fun x14 ex14 => ?_)
              refine g_goto C (pc := 76) 9 dX2_valueOf_76 (by decide) ?_
              refine g_sub [4, 5, 6, 1, 2, 0] rfl ?_
              exact ih x13 x6 x14 (by rw [ex14]; exact lp_dec c5 hmu)
  refine g_sub [3, 4, 5, 2, 1, 0] rfl ?_
  exact L9 _ p2 x1 0 (Nat.lt_succ_self _)
