theorem inX1_init_1 : ∀ w ∈ u_ws RX1 TX1 2, w ∈ wsX1_init := by decide +kernel
set_option maxHeartbeats 4000000 in
set_option maxRecDepth 100000 in
theorem kX1_init (l : Launch) (D : va_G) (cA : ClassId) (T : Nat × Nat × Nat) (a : Nat) (n : Nat) (hn1 : 0 < n) (hn2 : n < 1000) : ∀ sz : Nat, Met l yX1_init wsX1_init { frames := 1, cells := 1, slots := n, locals := 21 } (va_Pc [.ref a, .int (nI n)] (PreW D cA T [(a, .inr (1, [.null, .int 0]))] sz)) (va_Qv (fun u : (Nat → Nat) × St => u.1 0 = a ∧ u.2 = Mz) (fun u => PostW D cA (va_A [(a, .inr (1, [.null, .int 0]))] sz) (cellsW cA n u.1 u.2)) (va_A [(a, .inr (1, [.null, .int 0]))] sz)) 1 n (va_A [(a, .inr (1, [.null, .int 0]))] sz) := by
  refine m_in (cc := cX1_init) (maxL := 2) (own := RX1) 1 n (by decide) rfl rfl (Nat.le_of_ble_eq_true rfl) (fun {p e s m args below meth c} A C hin => ?_)
  refine g_aload_n C (pc := 0) dX1_init_0 0 rfl ?_
  refine g_objInit C (pc := 1) (List.mem_of_getElem? (i := 1) rfl) (List.mem_of_getElem? (i := 2) rfl) (List.mem_of_getElem? (i := 3) rfl) dX1_init_1 (Nat.le_of_ble_eq_true rfl) (Nat.le_of_ble_eq_true rfl) ?_
  refine g_aload_n C (pc := 4) dX1_init_4 0 rfl ?_
  refine g_iconst C (pc := 5) dX1_init_5 cI_0 ?_
  refine g_putL C (pc := 6) tyX1 tyX1_ok nmX1 inX1_init_1 rfl 1 (by decide) rfl (List.mem_of_getElem? (i := 4) rfl) dX1_init_6 rfl rfl 0 rfl (Nat.le_of_ble_eq_true rfl) (ws2 := [(a, .inr (1, [.null, .int 0]))]) rfl ?_
  refine g_aload_n C (pc := 9) dX1_init_9 0 rfl ?_
  refine g_iconst C (pc := 10) dX1_init_10 cI_0 ?_
  refine g_iload_n C (pc := 11) dX1_init_11 1 rfl ?_
  refine g_max C (pc := 12) (List.mem_of_getElem? (i := 5) rfl) (List.mem_of_getElem? (i := 6) rfl) (List.mem_of_getElem? (i := 7) rfl) (List.mem_of_getElem? (i := 8) rfl) ⟨Nat.le_of_ble_eq_true rfl, Nat.le_of_ble_eq_true rfl, Nat.zero_le _, Nat.zero_le _⟩ dX1_init_12 ?_
  rw [if_pos (show (0 : Int32) < nI n by rw [← nI_0]; exact nI_lt hn1 (by omega))]
  refine g_newa C (pc := 15) (n := nI n) (N := n) (List.mem_of_getElem? (i := 9) rfl) (nI_pos (by omega)) (by rw [tnc, nI_toInt (by omega)]; rfl) (by omega) ⟨Nat.le_of_ble_eq_true rfl, by show 0 + n ≤ n; omega⟩ dX1_init_15 (fun q => ?_)
  refine g_putF C (pc := 17) tyX1 tyX1_ok nmX1 inX1_init_1 rfl 0 (by decide) rfl hin rfl (List.mem_of_getElem? (i := 10) rfl) dX1_init_17 rfl rfl 0 rfl (Nat.le_of_ble_eq_true rfl) (ws2 := [(a, .inr (1, [.ref q, .int 0])), (q, .inl (cA, n, .inl (fun _ => 0)))]) rfl ?_
  refine g_widen 1 n (by decide) (by omega) ?_
  exact r_in (u := ((fun k : Nat => bif Nat.beq k 0 then a else q), Mz)) C rfl dX1_init_20 ⟨rfl, rfl⟩
theorem inX2_init_1 : ∀ w ∈ u_ws RX1 TX1 2, w ∈ wsX2_init := by decide +kernel
theorem inX2_init_2 : ∀ w ∈ u_ws RX2 TX2 3, w ∈ wsX2_init := by decide +kernel
set_option maxHeartbeats 4000000 in
set_option maxRecDepth 100000 in
theorem kX2_init (l : Launch) (D : va_G) (cA : ClassId) (T : Nat × Nat × Nat) (a : Nat) : ∀ sz : Nat, Met l yX2_init wsX2_init { frames := 2, cells := 6, slots := 66, locals := 42 } (va_Pc [.ref a] (PreW D cA T [(a, .inr (2, [.null, .null, .null]))] sz)) (va_Qv (fun u : (Nat → Nat) × St => u.1 0 = a ∧ u.2 = Mz) (fun u => PostW D cA (va_A [(a, .inr (2, [.null, .null, .null]))] sz) (hoursW cA u.1 u.2)) (va_A [(a, .inr (2, [.null, .null, .null]))] sz)) 6 66 (va_A [(a, .inr (2, [.null, .null, .null]))] sz) := by
  refine m_in (cc := cX2_init) (maxL := 1) (own := RX2) 6 66 (by decide) rfl rfl (Nat.le_of_ble_eq_true rfl) (fun {p e s m args below meth c} A C hin => ?_)
  refine g_aload_n C (pc := 0) dX2_init_0 0 rfl ?_
  refine g_objInit C (pc := 1) (List.mem_of_getElem? (i := 1) rfl) (List.mem_of_getElem? (i := 2) rfl) (List.mem_of_getElem? (i := 3) rfl) dX2_init_1 (Nat.le_of_ble_eq_true rfl) (Nat.le_of_ble_eq_true rfl) ?_
  refine g_aload_n C (pc := 4) dX2_init_4 0 rfl ?_
  refine g_new C (pc := 5) (ci := 1) (fs := [.null, .int 0]) inX2_init_1 tyX1 tyX1_ok (List.mem_of_getElem? (i := 4) rfl) (List.mem_of_getElem? (i := 5) rfl) (List.mem_of_getElem? (i := 6) rfl) rfl (fun j hj => by rcases (show j = 0 ∨ j = 1 by omega) with rfl | rfl <;> rfl) ⟨Nat.le_of_ble_eq_true rfl, Nat.le_of_ble_eq_true rfl⟩ dX2_init_5 (fun q5 => ?_)
  refine g_dup C (pc := 8) dX2_init_8 rfl ?_
  refine g_bipush C (pc := 9) dX2_init_9 cB_20 ?_
  refine g_init C (pc := 11) (As := [.int 20]) (b := q5) (kX1_init l D cA T q5 20 (by decide) (by decide)) (show ViewN (((a, .inr (2, [.null, .null, .null])) :: []) ++ [(q5, .inr (1, [.null, .int 0]))]) [(q5, .inr (1, [.null, .int 0]))] (fun u : (Nat → Nat) × St => cellsW cA 20 u.1 u.2) (fun u => ((a, .inr (2, [.null, .null, .null])) :: []) ++ (fun u : (Nat → Nat) × St => cellsW cA 20 u.1 u.2) u) from ⟨((a, .inr (2, [.null, .null, .null])) :: []), [1], [0], [0, 1, 2], rfl, rfl, rfl, rfl, by decide, rfl, fun u => rfl⟩) gX2_init_X1_init rfl ⟨rfl, rfl⟩ ⟨Nat.le_of_ble_eq_true rfl, Nat.le_of_ble_eq_true rfl⟩ ⟨Nat.le_of_ble_eq_true rfl, Nat.le_of_ble_eq_true rfl⟩ rfl (Nat.le_of_ble_eq_true rfl) hdS_X1_init (List.mem_of_getElem? (i := 6) rfl) (List.mem_of_getElem? (i := 10) rfl) (List.mem_of_getElem? (i := 11) rfl) rfl rfl dX2_init_11 (fun z hz => ?_)
  obtain ⟨h1, Mb1⟩ := z
  obtain ⟨e1, eMb1⟩ := hz
  dsimp only at e1 eMb1
  subst e1
  subst eMb1
  refine g_putF C (pc := 14) tyX2 tyX2_ok nmX2 inX2_init_2 rfl 0 (by decide) rfl hin rfl (List.mem_of_getElem? (i := 7) rfl) dX2_init_14 rfl rfl 0 rfl (Nat.le_of_ble_eq_true rfl) (ws2 := ((a, .inr (2, [.ref (h1 0), .null, .null])) :: cellsW cA 20 h1 Mz)) rfl ?_
  refine g_aload_n C (pc := 17) dX2_init_17 0 rfl ?_
  refine g_new C (pc := 18) (ci := 1) (fs := [.null, .int 0]) inX2_init_1 tyX1 tyX1_ok (List.mem_of_getElem? (i := 4) rfl) (List.mem_of_getElem? (i := 5) rfl) (List.mem_of_getElem? (i := 6) rfl) rfl (fun j hj => by rcases (show j = 0 ∨ j = 1 by omega) with rfl | rfl <;> rfl) ⟨Nat.le_of_ble_eq_true rfl, Nat.le_of_ble_eq_true rfl⟩ dX2_init_18 (fun q18 => ?_)
  refine g_dup C (pc := 21) dX2_init_21 rfl ?_
  refine g_bipush C (pc := 22) dX2_init_22 cB_20 ?_
  refine g_init C (pc := 24) (As := [.int 20]) (b := q18) (kX1_init l D cA T q18 20 (by decide) (by decide)) (show ViewN (((a, .inr (2, [.ref (h1 0), .null, .null])) :: cellsW cA 20 h1 Mz) ++ [(q18, .inr (1, [.null, .int 0]))]) [(q18, .inr (1, [.null, .int 0]))] (fun u : (Nat → Nat) × St => cellsW cA 20 u.1 u.2) (fun u => ((a, .inr (2, [.ref (h1 0), .null, .null])) :: cellsW cA 20 h1 Mz) ++ (fun u : (Nat → Nat) × St => cellsW cA 20 u.1 u.2) u) from ⟨((a, .inr (2, [.ref (h1 0), .null, .null])) :: cellsW cA 20 h1 Mz), [3], [0, 1, 2], [0, 1, 2, 3, 4], rfl, rfl, rfl, rfl, by decide, rfl, fun u => rfl⟩) gX2_init_X1_init rfl ⟨rfl, rfl⟩ ⟨Nat.le_of_ble_eq_true rfl, Nat.le_of_ble_eq_true rfl⟩ ⟨Nat.le_of_ble_eq_true rfl, Nat.le_of_ble_eq_true rfl⟩ rfl (Nat.le_of_ble_eq_true rfl) hdS_X1_init (List.mem_of_getElem? (i := 6) rfl) (List.mem_of_getElem? (i := 10) rfl) (List.mem_of_getElem? (i := 11) rfl) rfl rfl dX2_init_24 (fun z hz => ?_)
  obtain ⟨h2, Mb2⟩ := z
  obtain ⟨e2, eMb2⟩ := hz
  dsimp only at e2 eMb2
  subst e2
  subst eMb2
  refine g_putF C (pc := 27) tyX2 tyX2_ok nmX2 inX2_init_2 rfl 1 (by decide) rfl hin rfl (List.mem_of_getElem? (i := 8) rfl) dX2_init_27 rfl rfl 0 rfl (Nat.le_of_ble_eq_true rfl) (ws2 := ((a, .inr (2, [.ref (h1 0), .ref (h2 0), .null])) :: (cellsW cA 20 h1 Mz ++ cellsW cA 20 h2 Mz))) rfl ?_
  refine g_aload_n C (pc := 30) dX2_init_30 0 rfl ?_
  refine g_new C (pc := 31) (ci := 1) (fs := [.null, .int 0]) inX2_init_1 tyX1 tyX1_ok (List.mem_of_getElem? (i := 4) rfl) (List.mem_of_getElem? (i := 5) rfl) (List.mem_of_getElem? (i := 6) rfl) rfl (fun j hj => by rcases (show j = 0 ∨ j = 1 by omega) with rfl | rfl <;> rfl) ⟨Nat.le_of_ble_eq_true rfl, Nat.le_of_ble_eq_true rfl⟩ dX2_init_31 (fun q31 => ?_)
  refine g_dup C (pc := 34) dX2_init_34 rfl ?_
  refine g_bipush C (pc := 35) dX2_init_35 cB_20 ?_
  refine g_init C (pc := 37) (As := [.int 20]) (b := q31) (kX1_init l D cA T q31 20 (by decide) (by decide)) (show ViewN (((a, .inr (2, [.ref (h1 0), .ref (h2 0), .null])) :: (cellsW cA 20 h1 Mz ++ cellsW cA 20 h2 Mz)) ++ [(q31, .inr (1, [.null, .int 0]))]) [(q31, .inr (1, [.null, .int 0]))] (fun u : (Nat → Nat) × St => cellsW cA 20 u.1 u.2) (fun u => ((a, .inr (2, [.ref (h1 0), .ref (h2 0), .null])) :: (cellsW cA 20 h1 Mz ++ cellsW cA 20 h2 Mz)) ++ (fun u : (Nat → Nat) × St => cellsW cA 20 u.1 u.2) u) from ⟨((a, .inr (2, [.ref (h1 0), .ref (h2 0), .null])) :: (cellsW cA 20 h1 Mz ++ cellsW cA 20 h2 Mz)), [5], [0, 1, 2, 3, 4], [0, 1, 2, 3, 4, 5, 6], rfl, rfl, rfl, rfl, by decide, rfl, fun u => rfl⟩) gX2_init_X1_init rfl ⟨rfl, rfl⟩ ⟨Nat.le_of_ble_eq_true rfl, Nat.le_of_ble_eq_true rfl⟩ ⟨Nat.le_of_ble_eq_true rfl, Nat.le_of_ble_eq_true rfl⟩ rfl (Nat.le_of_ble_eq_true rfl) hdS_X1_init (List.mem_of_getElem? (i := 6) rfl) (List.mem_of_getElem? (i := 10) rfl) (List.mem_of_getElem? (i := 11) rfl) rfl rfl dX2_init_37 (fun z hz => ?_)
  obtain ⟨h3, Mb3⟩ := z
  obtain ⟨e3, eMb3⟩ := hz
  dsimp only at e3 eMb3
  subst e3
  subst eMb3
  refine g_putF C (pc := 40) tyX2 tyX2_ok nmX2 inX2_init_2 rfl 2 (by decide) rfl hin rfl (List.mem_of_getElem? (i := 9) rfl) dX2_init_40 rfl rfl 0 rfl (Nat.le_of_ble_eq_true rfl) (ws2 := ((a, .inr (2, [.ref (h1 0), .ref (h2 0), .ref (h3 0)])) :: (cellsW cA 20 h1 Mz ++ (cellsW cA 20 h2 Mz ++ cellsW cA 20 h3 Mz)))) rfl ?_
  refine g_widen 6 66 (by decide) (by decide) ?_
  exact r_in (u := ((fun k : Nat => bif Nat.beq k 0 then a else (bif Nat.blt k 3 then h1 (k - 1) else (bif Nat.blt k 5 then h2 (k - 3) else (h3 (k - 5))))), Mz)) C rfl dX2_init_43 ⟨rfl, rfl⟩
theorem inX0_init_0 : ∀ w ∈ u_ws RX0 TX0 18, w ∈ wsX0_init := by decide +kernel
theorem inX0_init_1 : ∀ w ∈ u_ws RX1 TX1 2, w ∈ wsX0_init := by decide +kernel
theorem inX0_init_2 : ∀ w ∈ u_ws RX2 TX2 3, w ∈ wsX0_init := by decide +kernel
noncomputable def xX0_init_l120 : Nat → St → Int32 → St
  | 0, M17, _ => (M17)
  | k + 1, M17, v16 => if 15 ≤ v16 then (nm (sa M17 0 (up (M17 0) 4 (xX1_at 15 (sh 1 M17) 11))) fun M19 => nm (sa M19 0 (up (M19 0) 5 (xX1_at 15 (sh 1 M19) 11))) fun M20 => M20) else (nm (xX1_add 15 (sh 1 M17) (xX4_numberIn tFirst v16)) fun z21 => nm (put 1 2 z21 M17) fun M22 => nm (v16 + 1 : Int32) fun x23 => xX0_init_l120 k M22 x23)
noncomputable def xX0_initT (M : St) : St := nm (sa M 0 (up (M 0) 3 500)) fun M1 => nm (sa M1 0 (up (M1 0) 4 0)) fun M2 => nm (sa M2 0 (up (M2 0) 5 0)) fun M3 => nm (sa M3 0 (up (M3 0) 6 0)) fun M4 => nm (sa M4 0 (up (M4 0) 7 0)) fun M5 => nm (sa M5 0 (up (M5 0) 8 0)) fun M6 => nm (sa M6 0 (up (M6 0) 9 0)) fun M7 => nm (sa M7 0 (up (M7 0) 10 0)) fun M8 => nm (sa M8 0 (up (M8 0) 11 0)) fun M9 => nm (sa M9 0 (up (M9 0) 12 0)) fun M10 => nm (sa M10 0 (up (M10 0) 13 0)) fun M11 => nm (sa M11 0 (up (M11 0) 14 0)) fun M12 => nm (sa M12 0 (up (M12 0) 15 0)) fun M13 => nm (sa M13 0 (up (M13 0) 16 (-1))) fun M14 => nm (sa M14 0 (up (M14 0) 17 0)) fun M15 => xX0_init_l120 (mu 0 15 + 1) M15 0
noncomputable def xX0_init : St := xX0_initT Mz
set_option maxHeartbeats 4000000 in
set_option maxRecDepth 100000 in
theorem kX0_init (l : Launch) (D : va_G) (cA : ClassId) (T : Nat × Nat × Nat) (a : Nat) : ∀ sz : Nat, Met l yX0_init wsX0_init { frames := 3, cells := 11, slots := 148, locals := 62 } (va_Pc [.ref a] (PreW D cA T [(a, .inr (0, [.null, .null, .null, .int 0, .int 0, .int 0, .int 0, .int 0, .int 0, .int 0, .int 0, .int 0, .int 0, .int 0, .int 0, .int 0, .int 0, .int 0]))] sz)) (va_Qv (fun u : (Nat → Nat) × St => u.1 0 = a ∧ u.2 = xX0_init ∧ Zbird u.2) (fun u => PostW D cA (va_A [(a, .inr (0, [.null, .null, .null, .int 0, .int 0, .int 0, .int 0, .int 0, .int 0, .int 0, .int 0, .int 0, .int 0, .int 0, .int 0, .int 0, .int 0, .int 0]))] sz) (birdW cA u.1 u.2)) (va_A [(a, .inr (0, [.null, .null, .null, .int 0, .int 0, .int 0, .int 0, .int 0, .int 0, .int 0, .int 0, .int 0, .int 0, .int 0, .int 0, .int 0, .int 0, .int 0]))] sz)) 11 148 (va_A [(a, .inr (0, [.null, .null, .null, .int 0, .int 0, .int 0, .int 0, .int 0, .int 0, .int 0, .int 0, .int 0, .int 0, .int 0, .int 0, .int 0, .int 0, .int 0]))] sz) := by
  refine m_in (cc := cX0_init) (maxL := 2) (own := RX0) 11 148 (by decide) rfl rfl (Nat.le_of_ble_eq_true rfl) (fun {p e s m args below meth c} A C hin => ?_)
  refine g_aload_n C (pc := 0) dX0_init_0 0 rfl ?_
  refine g_objInit C (pc := 1) (List.mem_of_getElem? (i := 1) rfl) (List.mem_of_getElem? (i := 2) rfl) (List.mem_of_getElem? (i := 3) rfl) dX0_init_1 (Nat.le_of_ble_eq_true rfl) (Nat.le_of_ble_eq_true rfl) ?_
  refine g_aload_n C (pc := 4) dX0_init_4 0 rfl ?_
  refine g_new C (pc := 5) (ci := 1) (fs := [.null, .int 0]) inX0_init_1 tyX1 tyX1_ok (List.mem_of_getElem? (i := 4) rfl) (List.mem_of_getElem? (i := 5) rfl) (List.mem_of_getElem? (i := 6) rfl) rfl (fun j hj => by rcases (show j = 0 ∨ j = 1 by omega) with rfl | rfl <;> rfl) ⟨Nat.le_of_ble_eq_true rfl, Nat.le_of_ble_eq_true rfl⟩ dX0_init_5 (fun q5 => ?_)
  refine g_dup C (pc := 8) dX0_init_8 rfl ?_
  refine g_bipush C (pc := 9) dX0_init_9 cB_15 ?_
  refine g_init C (pc := 11) (As := [.int 15]) (b := q5) (kX1_init l D cA T q5 15 (by decide) (by decide)) (show ViewN (((a, .inr (0, [.null, .null, .null, .int 0, .int 0, .int 0, .int 0, .int 0, .int 0, .int 0, .int 0, .int 0, .int 0, .int 0, .int 0, .int 0, .int 0, .int 0])) :: []) ++ [(q5, .inr (1, [.null, .int 0]))]) [(q5, .inr (1, [.null, .int 0]))] (fun u : (Nat → Nat) × St => cellsW cA 15 u.1 u.2) (fun u => ((a, .inr (0, [.null, .null, .null, .int 0, .int 0, .int 0, .int 0, .int 0, .int 0, .int 0, .int 0, .int 0, .int 0, .int 0, .int 0, .int 0, .int 0, .int 0])) :: []) ++ (fun u : (Nat → Nat) × St => cellsW cA 15 u.1 u.2) u) from ⟨((a, .inr (0, [.null, .null, .null, .int 0, .int 0, .int 0, .int 0, .int 0, .int 0, .int 0, .int 0, .int 0, .int 0, .int 0, .int 0, .int 0, .int 0, .int 0])) :: []), [1], [0], [0, 1, 2], rfl, rfl, rfl, rfl, by decide, rfl, fun u => rfl⟩) gX0_init_X1_init rfl ⟨rfl, rfl⟩ ⟨Nat.le_of_ble_eq_true rfl, Nat.le_of_ble_eq_true rfl⟩ ⟨Nat.le_of_ble_eq_true rfl, Nat.le_of_ble_eq_true rfl⟩ rfl (Nat.le_of_ble_eq_true rfl) hdS_X1_init (List.mem_of_getElem? (i := 6) rfl) (List.mem_of_getElem? (i := 28) rfl) (List.mem_of_getElem? (i := 29) rfl) rfl rfl dX0_init_11 (fun z hz => ?_)
  obtain ⟨h1, Mb1⟩ := z
  obtain ⟨e1, eMb1⟩ := hz
  dsimp only at e1 eMb1
  subst e1
  subst eMb1
  refine g_putF C (pc := 14) tyX0 tyX0_ok nmX0 inX0_init_0 rfl 0 (by decide) rfl hin rfl (List.mem_of_getElem? (i := 7) rfl) dX0_init_14 rfl rfl 0 rfl (Nat.le_of_ble_eq_true rfl) (ws2 := ((a, .inr (0, [.ref (h1 0), .null, .null, .int 0, .int 0, .int 0, .int 0, .int 0, .int 0, .int 0, .int 0, .int 0, .int 0, .int 0, .int 0, .int 0, .int 0, .int 0])) :: cellsW cA 15 h1 Mz)) rfl ?_
  refine g_aload_n C (pc := 17) dX0_init_17 0 rfl ?_
  refine g_new C (pc := 18) (ci := 2) (fs := [.null, .null, .null]) inX0_init_2 tyX2 tyX2_ok (List.mem_of_getElem? (i := 8) rfl) (List.mem_of_getElem? (i := 9) rfl) (List.mem_of_getElem? (i := 10) rfl) rfl (fun j hj => by rcases (show j = 0 ∨ j = 1 ∨ j = 2 by omega) with rfl | rfl | rfl <;> rfl) ⟨Nat.le_of_ble_eq_true rfl, Nat.le_of_ble_eq_true rfl⟩ dX0_init_18 (fun q18 => ?_)
  refine g_dup C (pc := 21) dX0_init_21 rfl ?_
  refine g_initN C (pc := 22) (As := []) (b := q18) (kX2_init l D cA T q18) (show ViewN (((a, .inr (0, [.ref (h1 0), .null, .null, .int 0, .int 0, .int 0, .int 0, .int 0, .int 0, .int 0, .int 0, .int 0, .int 0, .int 0, .int 0, .int 0, .int 0, .int 0])) :: cellsW cA 15 h1 Mz) ++ [(q18, .inr (2, [.null, .null, .null]))]) [(q18, .inr (2, [.null, .null, .null]))] (fun u : (Nat → Nat) × St => hoursW cA u.1 u.2) (fun u => ((a, .inr (0, [.ref (h1 0), .null, .null, .int 0, .int 0, .int 0, .int 0, .int 0, .int 0, .int 0, .int 0, .int 0, .int 0, .int 0, .int 0, .int 0, .int 0, .int 0])) :: cellsW cA 15 h1 Mz) ++ (fun u : (Nat → Nat) × St => hoursW cA u.1 u.2) u) from ⟨((a, .inr (0, [.ref (h1 0), .null, .null, .int 0, .int 0, .int 0, .int 0, .int 0, .int 0, .int 0, .int 0, .int 0, .int 0, .int 0, .int 0, .int 0, .int 0, .int 0])) :: cellsW cA 15 h1 Mz), [3], [0, 1, 2], [0, 1, 2, 3, 4, 5, 6, 7, 8, 9], rfl, rfl, rfl, rfl, by decide, rfl, fun u => rfl⟩) gX0_init_X2_init_n22 rfl ⟨rfl, rfl⟩ ⟨Nat.le_of_ble_eq_true rfl, Nat.le_of_ble_eq_true rfl⟩ ⟨Nat.le_of_ble_eq_true rfl, Nat.le_of_ble_eq_true rfl⟩ rfl (Nat.le_of_ble_eq_true rfl) hdS_X2_init (List.mem_of_getElem? (i := 10) rfl) (C.2.2.2.2.2.2.2.2.2.2.2.2.2.2.1) (List.mem_of_getElem? (i := 39) rfl) rfl rfl dX0_init_22 (fun z hz => ?_)
  obtain ⟨h2, Mb2⟩ := z
  obtain ⟨e2, eMb2⟩ := hz
  dsimp only at e2 eMb2
  subst e2
  subst eMb2
  refine g_putF C (pc := 25) tyX0 tyX0_ok nmX0 inX0_init_0 rfl 1 (by decide) rfl hin rfl (List.mem_of_getElem? (i := 11) rfl) dX0_init_25 rfl rfl 0 rfl (Nat.le_of_ble_eq_true rfl) (ws2 := ((a, .inr (0, [.ref (h1 0), .ref (h2 0), .null, .int 0, .int 0, .int 0, .int 0, .int 0, .int 0, .int 0, .int 0, .int 0, .int 0, .int 0, .int 0, .int 0, .int 0, .int 0])) :: (cellsW cA 15 h1 Mz ++ hoursW cA h2 Mz))) rfl ?_
  refine g_aload_n C (pc := 28) dX0_init_28 0 rfl ?_
  refine g_new C (pc := 29) (ci := 1) (fs := [.null, .int 0]) inX0_init_1 tyX1 tyX1_ok (List.mem_of_getElem? (i := 4) rfl) (List.mem_of_getElem? (i := 5) rfl) (List.mem_of_getElem? (i := 6) rfl) rfl (fun j hj => by rcases (show j = 0 ∨ j = 1 by omega) with rfl | rfl <;> rfl) ⟨Nat.le_of_ble_eq_true rfl, Nat.le_of_ble_eq_true rfl⟩ dX0_init_29 (fun q29 => ?_)
  refine g_dup C (pc := 32) dX0_init_32 rfl ?_
  refine g_bipush C (pc := 33) dX0_init_33 cB_60 ?_
  refine g_init C (pc := 35) (As := [.int 60]) (b := q29) (kX1_init l D cA T q29 60 (by decide) (by decide)) (show ViewN (((a, .inr (0, [.ref (h1 0), .ref (h2 0), .null, .int 0, .int 0, .int 0, .int 0, .int 0, .int 0, .int 0, .int 0, .int 0, .int 0, .int 0, .int 0, .int 0, .int 0, .int 0])) :: (cellsW cA 15 h1 Mz ++ hoursW cA h2 Mz)) ++ [(q29, .inr (1, [.null, .int 0]))]) [(q29, .inr (1, [.null, .int 0]))] (fun u : (Nat → Nat) × St => cellsW cA 60 u.1 u.2) (fun u => ((a, .inr (0, [.ref (h1 0), .ref (h2 0), .null, .int 0, .int 0, .int 0, .int 0, .int 0, .int 0, .int 0, .int 0, .int 0, .int 0, .int 0, .int 0, .int 0, .int 0, .int 0])) :: (cellsW cA 15 h1 Mz ++ hoursW cA h2 Mz)) ++ (fun u : (Nat → Nat) × St => cellsW cA 60 u.1 u.2) u) from ⟨((a, .inr (0, [.ref (h1 0), .ref (h2 0), .null, .int 0, .int 0, .int 0, .int 0, .int 0, .int 0, .int 0, .int 0, .int 0, .int 0, .int 0, .int 0, .int 0, .int 0, .int 0])) :: (cellsW cA 15 h1 Mz ++ hoursW cA h2 Mz)), [10], [0, 1, 2, 3, 4, 5, 6, 7, 8, 9], [0, 1, 2, 3, 4, 5, 6, 7, 8, 9, 10, 11], rfl, rfl, rfl, rfl, by decide, rfl, fun u => rfl⟩) gX0_init_X1_init rfl ⟨rfl, rfl⟩ ⟨Nat.le_of_ble_eq_true rfl, Nat.le_of_ble_eq_true rfl⟩ ⟨Nat.le_of_ble_eq_true rfl, Nat.le_of_ble_eq_true rfl⟩ rfl (Nat.le_of_ble_eq_true rfl) hdS_X1_init (List.mem_of_getElem? (i := 6) rfl) (List.mem_of_getElem? (i := 28) rfl) (List.mem_of_getElem? (i := 29) rfl) rfl rfl dX0_init_35 (fun z hz => ?_)
  obtain ⟨h3, Mb3⟩ := z
  obtain ⟨e3, eMb3⟩ := hz
  dsimp only at e3 eMb3
  subst e3
  subst eMb3
  refine g_putF C (pc := 38) tyX0 tyX0_ok nmX0 inX0_init_0 rfl 2 (by decide) rfl hin rfl (List.mem_of_getElem? (i := 12) rfl) dX0_init_38 rfl rfl 0 rfl (Nat.le_of_ble_eq_true rfl) (ws2 := ((a, .inr (0, [.ref (h1 0), .ref (h2 0), .ref (h3 0), .int 0, .int 0, .int 0, .int 0, .int 0, .int 0, .int 0, .int 0, .int 0, .int 0, .int 0, .int 0, .int 0, .int 0, .int 0])) :: (cellsW cA 15 h1 Mz ++ (hoursW cA h2 Mz ++ cellsW cA 60 h3 Mz)))) rfl ?_
  obtain ⟨h, M, ha, hM, hw⟩ : ∃ (h : Nat → Nat) (M : St), h 0 = a ∧ M = Mz ∧ ((a, .inr (0, [.ref (h1 0), .ref (h2 0), .ref (h3 0), .int 0, .int 0, .int 0, .int 0, .int 0, .int 0, .int 0, .int 0, .int 0, .int 0, .int 0, .int 0, .int 0, .int 0, .int 0])) :: (cellsW cA 15 h1 Mz ++ (hoursW cA h2 Mz ++ cellsW cA 60 h3 Mz))) = birdW cA h M := ⟨(fun k : Nat => bif Nat.beq k 0 then a else (bif Nat.blt k 3 then h1 (k - 1) else (bif Nat.blt k 10 then h2 (k - 3) else (h3 (k - 10))))), _, rfl, rfl, rfl⟩
  refine g_conv hw ?_
  clear hw
  subst ha
  have hz : Zbird M := by rw [hM]; exact ⟨⟨by decide, by decide, by decide⟩, ⟨by decide, by decide, by decide⟩, ⟨by decide, by decide, by decide⟩, ⟨by decide, by decide, by decide⟩, ⟨by decide, by decide, by decide⟩⟩
  refine g_widen 11 148 (by decide) (by decide) ?_
  refine g_prog (xX0_initT M) ?_
  unfold xX0_initT
  refine g_aload_n C (pc := 41) dX0_init_41 0 rfl ?_
  refine g_sipush C (pc := 42) dX0_init_42 cS_500 ?_
  refine g_put C (pc := 45) tyX0 tyX0_ok nmX0 inX0_init_0 rfl 3 (by decide) rfl (List.mem_of_getElem? (i := 13) rfl) dX0_init_45 rfl rfl 0 rfl (Nat.le_of_ble_eq_true rfl) (birdW cA h) (sa M 0 (up (M 0) 3 500)) rfl (fun M1 eM1 => ?_)
  have hz1 : (Zbird M1) := by rw [eM1]; exact hz
  refine g_aload_n C (pc := 48) dX0_init_48 0 rfl ?_
  refine g_iconst C (pc := 49) dX0_init_49 cI_0 ?_
  refine g_put C (pc := 50) tyX0 tyX0_ok nmX0 inX0_init_0 rfl 4 (by decide) rfl (List.mem_of_getElem? (i := 14) rfl) dX0_init_50 rfl rfl 0 rfl (Nat.le_of_ble_eq_true rfl) (birdW cA h) (sa M1 0 (up (M1 0) 4 0)) rfl (fun M2 eM2 => ?_)
  have hz2 : (Zbird M2) := by rw [eM2]; exact hz1
  refine g_aload_n C (pc := 53) dX0_init_53 0 rfl ?_
  refine g_iconst C (pc := 54) dX0_init_54 cI_0 ?_
  refine g_put C (pc := 55) tyX0 tyX0_ok nmX0 inX0_init_0 rfl 5 (by decide) rfl (List.mem_of_getElem? (i := 15) rfl) dX0_init_55 rfl rfl 0 rfl (Nat.le_of_ble_eq_true rfl) (birdW cA h) (sa M2 0 (up (M2 0) 5 0)) rfl (fun M3 eM3 => ?_)
  have hz3 : (Zbird M3) := by rw [eM3]; exact hz2
  refine g_aload_n C (pc := 58) dX0_init_58 0 rfl ?_
  refine g_iconst C (pc := 59) dX0_init_59 cI_0 ?_
  refine g_put C (pc := 60) tyX0 tyX0_ok nmX0 inX0_init_0 rfl 6 (by decide) rfl (List.mem_of_getElem? (i := 16) rfl) dX0_init_60 rfl rfl 0 rfl (Nat.le_of_ble_eq_true rfl) (birdW cA h) (sa M3 0 (up (M3 0) 6 0)) rfl (fun M4 eM4 => ?_)
  have hz4 : (Zbird M4) := by rw [eM4]; exact hz3
  refine g_aload_n C (pc := 63) dX0_init_63 0 rfl ?_
  refine g_iconst C (pc := 64) dX0_init_64 cI_0 ?_
  refine g_put C (pc := 65) tyX0 tyX0_ok nmX0 inX0_init_0 rfl 7 (by decide) rfl (List.mem_of_getElem? (i := 17) rfl) dX0_init_65 rfl rfl 0 rfl (Nat.le_of_ble_eq_true rfl) (birdW cA h) (sa M4 0 (up (M4 0) 7 0)) rfl (fun M5 eM5 => ?_)
  have hz5 : (Zbird M5) := by rw [eM5]; exact hz4
  refine g_aload_n C (pc := 68) dX0_init_68 0 rfl ?_
  refine g_iconst C (pc := 69) dX0_init_69 cI_0 ?_
  refine g_put C (pc := 70) tyX0 tyX0_ok nmX0 inX0_init_0 rfl 8 (by decide) rfl (List.mem_of_getElem? (i := 18) rfl) dX0_init_70 rfl rfl 0 rfl (Nat.le_of_ble_eq_true rfl) (birdW cA h) (sa M5 0 (up (M5 0) 8 0)) rfl (fun M6 eM6 => ?_)
  have hz6 : (Zbird M6) := by rw [eM6]; exact hz5
  refine g_aload_n C (pc := 73) dX0_init_73 0 rfl ?_
  refine g_iconst C (pc := 74) dX0_init_74 cI_0 ?_
  refine g_put C (pc := 75) tyX0 tyX0_ok nmX0 inX0_init_0 rfl 9 (by decide) rfl (List.mem_of_getElem? (i := 19) rfl) dX0_init_75 rfl rfl 0 rfl (Nat.le_of_ble_eq_true rfl) (birdW cA h) (sa M6 0 (up (M6 0) 9 0)) rfl (fun M7 eM7 => ?_)
  have hz7 : (Zbird M7) := by rw [eM7]; exact hz6
  refine g_aload_n C (pc := 78) dX0_init_78 0 rfl ?_
  refine g_iconst C (pc := 79) dX0_init_79 cI_0 ?_
  refine g_put C (pc := 80) tyX0 tyX0_ok nmX0 inX0_init_0 rfl 10 (by decide) rfl (List.mem_of_getElem? (i := 20) rfl) dX0_init_80 rfl rfl 0 rfl (Nat.le_of_ble_eq_true rfl) (birdW cA h) (sa M7 0 (up (M7 0) 10 0)) rfl (fun M8 eM8 => ?_)
  have hz8 : (Zbird M8) := by rw [eM8]; exact hz7
  refine g_aload_n C (pc := 83) dX0_init_83 0 rfl ?_
  refine g_iconst C (pc := 84) dX0_init_84 cI_0 ?_
  refine g_put C (pc := 85) tyX0 tyX0_ok nmX0 inX0_init_0 rfl 11 (by decide) rfl (List.mem_of_getElem? (i := 21) rfl) dX0_init_85 rfl rfl 0 rfl (Nat.le_of_ble_eq_true rfl) (birdW cA h) (sa M8 0 (up (M8 0) 11 0)) rfl (fun M9 eM9 => ?_)
  have hz9 : (Zbird M9) := by rw [eM9]; exact hz8
  refine g_aload_n C (pc := 88) dX0_init_88 0 rfl ?_
  refine g_iconst C (pc := 89) dX0_init_89 cI_0 ?_
  refine g_put C (pc := 90) tyX0 tyX0_ok nmX0 inX0_init_0 rfl 12 (by decide) rfl (List.mem_of_getElem? (i := 22) rfl) dX0_init_90 rfl rfl 0 rfl (Nat.le_of_ble_eq_true rfl) (birdW cA h) (sa M9 0 (up (M9 0) 12 0)) rfl (fun M10 eM10 => ?_)
  have hz10 : (Zbird M10) := by rw [eM10]; exact hz9
  refine g_aload_n C (pc := 93) dX0_init_93 0 rfl ?_
  refine g_iconst C (pc := 94) dX0_init_94 cI_0 ?_
  refine g_put C (pc := 95) tyX0 tyX0_ok nmX0 inX0_init_0 rfl 13 (by decide) rfl (List.mem_of_getElem? (i := 23) rfl) dX0_init_95 rfl rfl 0 rfl (Nat.le_of_ble_eq_true rfl) (birdW cA h) (sa M10 0 (up (M10 0) 13 0)) rfl (fun M11 eM11 => ?_)
  have hz11 : (Zbird M11) := by rw [eM11]; exact hz10
  refine g_aload_n C (pc := 98) dX0_init_98 0 rfl ?_
  refine g_iconst C (pc := 99) dX0_init_99 cI_0 ?_
  refine g_put C (pc := 100) tyX0 tyX0_ok nmX0 inX0_init_0 rfl 14 (by decide) rfl (List.mem_of_getElem? (i := 24) rfl) dX0_init_100 rfl rfl 0 rfl (Nat.le_of_ble_eq_true rfl) (birdW cA h) (sa M11 0 (up (M11 0) 14 0)) rfl (fun M12 eM12 => ?_)
  have hz12 : (Zbird M12) := by rw [eM12]; exact hz11
  refine g_aload_n C (pc := 103) dX0_init_103 0 rfl ?_
  refine g_iconst C (pc := 104) dX0_init_104 cI_0 ?_
  refine g_put C (pc := 105) tyX0 tyX0_ok nmX0 inX0_init_0 rfl 15 (by decide) rfl (List.mem_of_getElem? (i := 25) rfl) dX0_init_105 rfl rfl 0 rfl (Nat.le_of_ble_eq_true rfl) (birdW cA h) (sa M12 0 (up (M12 0) 15 0)) rfl (fun M13 eM13 => ?_)
  have hz13 : (Zbird M13) := by rw [eM13]; exact hz12
  refine g_aload_n C (pc := 108) dX0_init_108 0 rfl ?_
  refine g_iconst C (pc := 109) dX0_init_109 cI_m1 ?_
  refine g_put C (pc := 110) tyX0 tyX0_ok nmX0 inX0_init_0 rfl 16 (by decide) rfl (List.mem_of_getElem? (i := 26) rfl) dX0_init_110 rfl rfl 0 rfl (Nat.le_of_ble_eq_true rfl) (birdW cA h) (sa M13 0 (up (M13 0) 16 (-1))) rfl (fun M14 eM14 => ?_)
  have hz14 : (Zbird M14) := by rw [eM14]; exact hz13
  refine g_aload_n C (pc := 113) dX0_init_113 0 rfl ?_
  refine g_iconst C (pc := 114) dX0_init_114 cI_0 ?_
  refine g_put C (pc := 115) tyX0 tyX0_ok nmX0 inX0_init_0 rfl 17 (by decide) rfl (List.mem_of_getElem? (i := 27) rfl) dX0_init_115 rfl rfl 0 rfl (Nat.le_of_ble_eq_true rfl) (birdW cA h) (sa M14 0 (up (M14 0) 17 0)) rfl (fun M15 eM15 => ?_)
  have hz15 : (Zbird M15) := by rw [eM15]; exact hz14
  refine g_iconst C (pc := 118) dX0_init_118 cI_0 ?_
  refine g_istore_n C (pc := 119) [(1, .int 0), (0, .ref (h 0))] dX0_init_119 (by decide) rfl ?_
  have L120 : ∀ (k : Nat) (M17 : St) (v16 : Int32), (Zbird M17) → mu v16 15 < k → G p l e { frames := 3, cells := 11, slots := 148, locals := 62 } s m args below meth c 11 148 D A (Qin below D cA A args s 11 148 (fun u : (Nat → Nat) × St => birdW cA u.1 u.2) (fun u : (Nat → Nat) × St => u.1 0 = h 0 ∧ u.2 = xX0_init ∧ Zbird u.2)) 2 (xX0_initT M) (xX0_init_l120 k M17 v16) (birdW cA h M17) 120 [(0, .ref (h 0)), (1, .int v16)] [] := by
    intro k
    induction k with
    | zero => intro M17 v16 hz17 hmu; exact absurd hmu (Nat.not_lt_zero _)
    | succ k ih =>
      intro M17 v16 hz17 hmu
      rw [xX0_init_l120]
      refine g_iload_n C (pc := 120) dX0_init_120 1 rfl ?_
      refine g_bipush C (pc := 121) dX0_init_121 cB_15 ?_
      refine g_icmp_ge C (pc := 123) 146 dX0_init_123 (by decide) (fun c18 => ?_) (fun c18 => ?_)
      · refine g_aload_n C (pc := 146) dX0_init_146 0 rfl ?_
        refine g_aload_n C (pc := 147) dX0_init_147 0 rfl ?_
        refine g_get C (pc := 148) inX0_init_0 rfl 0 (by decide) (List.mem_of_getElem? (i := 7) rfl) dX0_init_148 0 rfl (.ref (h 1)) rfl ?_
        refine g_bipush C (pc := 151) dX0_init_151 cB_11 ?_
        refine g_Vpi C (pc := 153) (As := [.int 11]) (kX1_at l D cA T 15 (sh 1 h) (sh 1 M17) 11 hz17.1) (v_bird_cells_1 cA h M17) gX0_init_X1_at rfl ⟨rfl, rfl⟩ ⟨Nat.le_of_ble_eq_true rfl, Nat.le_of_ble_eq_true rfl⟩ ⟨Nat.le_of_ble_eq_true rfl, Nat.le_of_ble_eq_true rfl⟩ rfl (Nat.le_of_ble_eq_true rfl) hdV_X1_at 0 rfl rfl rfl dX0_init_153 ?_
        refine g_put C (pc := 156) tyX0 tyX0_ok nmX0 inX0_init_0 rfl 4 (by decide) rfl (List.mem_of_getElem? (i := 14) rfl) dX0_init_156 rfl rfl 0 rfl (Nat.le_of_ble_eq_true rfl) (birdW cA h) (sa M17 0 (up (M17 0) 4 (xX1_at 15 (sh 1 M17) 11))) rfl (fun M19 eM19 => ?_)
        have hz19 : (Zbird M19) := by rw [eM19]; exact hz17
        refine g_aload_n C (pc := 159) dX0_init_159 0 rfl ?_
        refine g_aload_n C (pc := 160) dX0_init_160 0 rfl ?_
        refine g_get C (pc := 161) inX0_init_0 rfl 0 (by decide) (List.mem_of_getElem? (i := 7) rfl) dX0_init_161 0 rfl (.ref (h 1)) rfl ?_
        refine g_bipush C (pc := 164) dX0_init_164 cB_11 ?_
        refine g_Vpi C (pc := 166) (As := [.int 11]) (kX1_at l D cA T 15 (sh 1 h) (sh 1 M19) 11 hz19.1) (v_bird_cells_1 cA h M19) gX0_init_X1_at rfl ⟨rfl, rfl⟩ ⟨Nat.le_of_ble_eq_true rfl, Nat.le_of_ble_eq_true rfl⟩ ⟨Nat.le_of_ble_eq_true rfl, Nat.le_of_ble_eq_true rfl⟩ rfl (Nat.le_of_ble_eq_true rfl) hdV_X1_at 0 rfl rfl rfl dX0_init_166 ?_
        refine g_put C (pc := 169) tyX0 tyX0_ok nmX0 inX0_init_0 rfl 5 (by decide) rfl (List.mem_of_getElem? (i := 15) rfl) dX0_init_169 rfl rfl 0 rfl (Nat.le_of_ble_eq_true rfl) (birdW cA h) (sa M19 0 (up (M19 0) 5 (xX1_at 15 (sh 1 M19) 11))) rfl (fun M20 eM20 => ?_)
        have hz20 : (Zbird M20) := by rw [eM20]; exact hz19
        exact r_inT (v := (h, M20)) C rfl dX0_init_172 (fun q => ⟨rfl, (q.trans (by rw [hM]; rfl)), hz20⟩)
      · refine g_aload_n C (pc := 126) dX0_init_126 0 rfl ?_
        refine g_get C (pc := 127) inX0_init_0 rfl 0 (by decide) (List.mem_of_getElem? (i := 7) rfl) dX0_init_127 0 rfl (.ref (h 1)) rfl ?_
        refine g_getsN C (pc := 130) (n := "FIRST") C.2.2.2.2.2.2.2.2.2.1.1 C.2.2.2.2.2.2.2.2.2.2.2.2.1 dX0_init_130 ?_
        refine g_iload_n C (pc := 133) dX0_init_133 1 rfl ?_
        refine g_SNpi C (pc := 134) (As := [.ref (T.1), .int v16]) (kX4_numberIn_FIRST l D cA T v16) (v_none (birdW cA h M17) 12 rfl rfl) gX0_init_X4_numberIn_n80 (C.2.2.2.2.2.2.2.2.2.2.2.2.2.2.2.1) (List.mem_of_getElem? (i := 48) rfl) (List.mem_of_getElem? (i := 47) rfl) rfl ⟨rfl, rfl⟩ ⟨Nat.le_of_ble_eq_true rfl, Nat.le_of_ble_eq_true rfl⟩ ⟨Nat.le_of_ble_eq_true rfl, Nat.le_of_ble_eq_true rfl⟩ rfl (Nat.le_of_ble_eq_true rfl) hdS_X4_numberIn rfl dX0_init_134 ?_
        refine g_Vev C (pc := 137) (As := [.int (xX4_numberIn tFirst v16)]) (kX1_add l D cA T 15 (sh 1 h) (sh 1 M17) (xX4_numberIn tFirst v16) hz17.1) (v_bird_cells_1 cA h M17) gX0_init_X1_add rfl ⟨rfl, rfl⟩ ⟨Nat.le_of_ble_eq_true rfl, Nat.le_of_ble_eq_true rfl⟩ ⟨Nat.le_of_ble_eq_true rfl, Nat.le_of_ble_eq_true rfl⟩ rfl (Nat.le_of_ble_eq_true rfl) hdV_X1_add 0 rfl rfl rfl dX0_init_137 (fun z21 ez21 hz_z21 => ?_)
        refine g_nmW (birdW cA h) (fun M22 eM22 => ?_)
        have hz22 : (Zbird M22) := by rw [eM22]; exact ⟨hz_z21, hz17.2.1, hz17.2.2.1, hz17.2.2.2.1, hz17.2.2.2.2⟩
        refine g_iincN C (pc := 140) 1 (fun y => [(1, .int y), (0, .ref (h 0))]) dX0_init_140 1 rfl cI_1 (by decide) (fun _ => rfl) (fun x23 ex23 => ?_)
        refine g_goto C (pc := 143) 120 dX0_init_143 (by decide) ?_
        refine g_sub [1, 0] rfl ?_
        exact ih M22 x23 hz22 (by rw [ex23]; exact lp_dec c18 hmu)
  refine g_sub [1, 0] rfl ?_
  exact L120 _ M15 0 hz15 (Nat.lt_succ_self _)
theorem inX3_init_1 : ∀ w ∈ u_ws RX1 TX1 2, w ∈ wsX3_init := by decide +kernel
theorem inX3_init_3 : ∀ w ∈ u_ws RX3 TX3 6, w ∈ wsX3_init := by decide +kernel
noncomputable def xX3_initT (M : St) : St := nm (sa M 0 (up (M 0) 1 0)) fun M1 => nm (sa M1 0 (up (M1 0) 2 0)) fun M2 => nm (sa M2 0 (up (M2 0) 3 0)) fun M3 => nm (sa M3 0 (up (M3 0) 4 0)) fun M4 => nm (sa M4 0 (up (M4 0) 5 0)) fun M5 => M5
noncomputable def xX3_init : St := xX3_initT Mz
set_option maxHeartbeats 4000000 in
set_option maxRecDepth 100000 in
theorem kX3_init (l : Launch) (D : va_G) (cA : ClassId) (T : Nat × Nat × Nat) (a : Nat) : ∀ sz : Nat, Met l yX3_init wsX3_init { frames := 2, cells := 2, slots := 66, locals := 42 } (va_Pc [.ref a] (PreW D cA T [(a, .inr (3, [.null, .int 0, .int 0, .int 0, .int 0, .int 0]))] sz)) (va_Qv (fun u : (Nat → Nat) × St => u.1 0 = a ∧ u.2 = xX3_init ∧ Ztape u.2) (fun u => PostW D cA (va_A [(a, .inr (3, [.null, .int 0, .int 0, .int 0, .int 0, .int 0]))] sz) (tapeW cA u.1 u.2)) (va_A [(a, .inr (3, [.null, .int 0, .int 0, .int 0, .int 0, .int 0]))] sz)) 2 66 (va_A [(a, .inr (3, [.null, .int 0, .int 0, .int 0, .int 0, .int 0]))] sz) := by
  refine m_in (cc := cX3_init) (maxL := 1) (own := RX3) 2 66 (by decide) rfl rfl (Nat.le_of_ble_eq_true rfl) (fun {p e s m args below meth c} A C hin => ?_)
  refine g_aload_n C (pc := 0) dX3_init_0 0 rfl ?_
  refine g_objInit C (pc := 1) (List.mem_of_getElem? (i := 1) rfl) (List.mem_of_getElem? (i := 2) rfl) (List.mem_of_getElem? (i := 3) rfl) dX3_init_1 (Nat.le_of_ble_eq_true rfl) (Nat.le_of_ble_eq_true rfl) ?_
  refine g_aload_n C (pc := 4) dX3_init_4 0 rfl ?_
  refine g_new C (pc := 5) (ci := 1) (fs := [.null, .int 0]) inX3_init_1 tyX1 tyX1_ok (List.mem_of_getElem? (i := 4) rfl) (List.mem_of_getElem? (i := 5) rfl) (List.mem_of_getElem? (i := 6) rfl) rfl (fun j hj => by rcases (show j = 0 ∨ j = 1 by omega) with rfl | rfl <;> rfl) ⟨Nat.le_of_ble_eq_true rfl, Nat.le_of_ble_eq_true rfl⟩ dX3_init_5 (fun q5 => ?_)
  refine g_dup C (pc := 8) dX3_init_8 rfl ?_
  refine g_bipush C (pc := 9) dX3_init_9 cB_64 ?_
  refine g_init C (pc := 11) (As := [.int 64]) (b := q5) (kX1_init l D cA T q5 64 (by decide) (by decide)) (show ViewN (((a, .inr (3, [.null, .int 0, .int 0, .int 0, .int 0, .int 0])) :: []) ++ [(q5, .inr (1, [.null, .int 0]))]) [(q5, .inr (1, [.null, .int 0]))] (fun u : (Nat → Nat) × St => cellsW cA 64 u.1 u.2) (fun u => ((a, .inr (3, [.null, .int 0, .int 0, .int 0, .int 0, .int 0])) :: []) ++ (fun u : (Nat → Nat) × St => cellsW cA 64 u.1 u.2) u) from ⟨((a, .inr (3, [.null, .int 0, .int 0, .int 0, .int 0, .int 0])) :: []), [1], [0], [0, 1, 2], rfl, rfl, rfl, rfl, by decide, rfl, fun u => rfl⟩) gX3_init_X1_init rfl ⟨rfl, rfl⟩ ⟨Nat.le_of_ble_eq_true rfl, Nat.le_of_ble_eq_true rfl⟩ ⟨Nat.le_of_ble_eq_true rfl, Nat.le_of_ble_eq_true rfl⟩ rfl (Nat.le_of_ble_eq_true rfl) hdS_X1_init (List.mem_of_getElem? (i := 6) rfl) (List.mem_of_getElem? (i := 13) rfl) (List.mem_of_getElem? (i := 14) rfl) rfl rfl dX3_init_11 (fun z hz => ?_)
  obtain ⟨h1, Mb1⟩ := z
  obtain ⟨e1, eMb1⟩ := hz
  dsimp only at e1 eMb1
  subst e1
  subst eMb1
  refine g_putF C (pc := 14) tyX3 tyX3_ok nmX3 inX3_init_3 rfl 0 (by decide) rfl hin rfl (List.mem_of_getElem? (i := 7) rfl) dX3_init_14 rfl rfl 0 rfl (Nat.le_of_ble_eq_true rfl) (ws2 := ((a, .inr (3, [.ref (h1 0), .int 0, .int 0, .int 0, .int 0, .int 0])) :: cellsW cA 64 h1 Mz)) rfl ?_
  obtain ⟨h, M, ha, hM, hw⟩ : ∃ (h : Nat → Nat) (M : St), h 0 = a ∧ M = Mz ∧ ((a, .inr (3, [.ref (h1 0), .int 0, .int 0, .int 0, .int 0, .int 0])) :: cellsW cA 64 h1 Mz) = tapeW cA h M := ⟨(fun k : Nat => bif Nat.beq k 0 then a else (h1 (k - 1))), _, rfl, rfl, rfl⟩
  refine g_conv hw ?_
  clear hw
  subst ha
  have hz : Ztape M := by rw [hM]; exact ⟨by decide, by decide, by decide⟩
  refine g_widen 2 66 (by decide) (by decide) ?_
  refine g_prog (xX3_initT M) ?_
  unfold xX3_initT
  refine g_aload_n C (pc := 17) dX3_init_17 0 rfl ?_
  refine g_iconst C (pc := 18) dX3_init_18 cI_0 ?_
  refine g_put C (pc := 19) tyX3 tyX3_ok nmX3 inX3_init_3 rfl 1 (by decide) rfl (List.mem_of_getElem? (i := 8) rfl) dX3_init_19 rfl rfl 0 rfl (Nat.le_of_ble_eq_true rfl) (tapeW cA h) (sa M 0 (up (M 0) 1 0)) rfl (fun M1 eM1 => ?_)
  have hz1 : (Ztape M1) := by rw [eM1]; exact hz
  refine g_aload_n C (pc := 22) dX3_init_22 0 rfl ?_
  refine g_iconst C (pc := 23) dX3_init_23 cI_0 ?_
  refine g_put C (pc := 24) tyX3 tyX3_ok nmX3 inX3_init_3 rfl 2 (by decide) rfl (List.mem_of_getElem? (i := 9) rfl) dX3_init_24 rfl rfl 0 rfl (Nat.le_of_ble_eq_true rfl) (tapeW cA h) (sa M1 0 (up (M1 0) 2 0)) rfl (fun M2 eM2 => ?_)
  have hz2 : (Ztape M2) := by rw [eM2]; exact hz1
  refine g_aload_n C (pc := 27) dX3_init_27 0 rfl ?_
  refine g_iconst C (pc := 28) dX3_init_28 cI_0 ?_
  refine g_put C (pc := 29) tyX3 tyX3_ok nmX3 inX3_init_3 rfl 3 (by decide) rfl (List.mem_of_getElem? (i := 10) rfl) dX3_init_29 rfl rfl 0 rfl (Nat.le_of_ble_eq_true rfl) (tapeW cA h) (sa M2 0 (up (M2 0) 3 0)) rfl (fun M3 eM3 => ?_)
  have hz3 : (Ztape M3) := by rw [eM3]; exact hz2
  refine g_aload_n C (pc := 32) dX3_init_32 0 rfl ?_
  refine g_iconst C (pc := 33) dX3_init_33 cI_0 ?_
  refine g_put C (pc := 34) tyX3 tyX3_ok nmX3 inX3_init_3 rfl 4 (by decide) rfl (List.mem_of_getElem? (i := 11) rfl) dX3_init_34 rfl rfl 0 rfl (Nat.le_of_ble_eq_true rfl) (tapeW cA h) (sa M3 0 (up (M3 0) 4 0)) rfl (fun M4 eM4 => ?_)
  have hz4 : (Ztape M4) := by rw [eM4]; exact hz3
  refine g_aload_n C (pc := 37) dX3_init_37 0 rfl ?_
  refine g_iconst C (pc := 38) dX3_init_38 cI_0 ?_
  refine g_put C (pc := 39) tyX3 tyX3_ok nmX3 inX3_init_3 rfl 5 (by decide) rfl (List.mem_of_getElem? (i := 12) rfl) dX3_init_39 rfl rfl 0 rfl (Nat.le_of_ble_eq_true rfl) (tapeW cA h) (sa M4 0 (up (M4 0) 5 0)) rfl (fun M5 eM5 => ?_)
  have hz5 : (Ztape M5) := by rw [eM5]; exact hz4
  exact r_inT (v := (h, M5)) C rfl dX3_init_42 (fun q => ⟨rfl, (q.trans (by rw [hM]; rfl)), hz5⟩)
theorem inX4_init_0 : ∀ w ∈ u_ws RX0 TX0 18, w ∈ wsX4_init := by decide +kernel
theorem inX4_init_1 : ∀ w ∈ u_ws RX1 TX1 2, w ∈ wsX4_init := by decide +kernel
theorem inX4_init_3 : ∀ w ∈ u_ws RX3 TX3 6, w ∈ wsX4_init := by decide +kernel
theorem inX4_init_4 : ∀ w ∈ u_ws RX4 TX4 8, w ∈ wsX4_init := by decide +kernel
noncomputable def xX4_initT (M : St) : St := nm (sa M 0 (up (M 0) 7 0)) fun M1 => nm (xX1_fillUp 7 (sh 54 M1)) fun z2 => nm (put 54 2 z2 M1) fun M3 => M3
noncomputable def xX4_init : St := xX4_initT (put 37 12 xX0_init (put 25 12 xX0_init (put 13 12 xX0_init (put 1 12 xX0_init Mz))))
set_option maxHeartbeats 4000000 in
set_option maxRecDepth 100000 in
theorem kX4_init (l : Launch) (D : va_G) (cA : ClassId) (T : Nat × Nat × Nat) (a : Nat) : ∀ sz : Nat, Met l yX4_init wsX4_init { frames := 4, cells := 55, slots := 757, locals := 83 } (va_Pc [.ref a] (PreW D cA T [(a, .inr (4, [.null, .null, .null, .null, .null, .null, .null, .int 0]))] sz)) (va_Qv (fun u : (Nat → Nat) × St => u.1 0 = a ∧ u.2 = xX4_init ∧ Zmain u.2) (fun u => PostW D cA (va_A [(a, .inr (4, [.null, .null, .null, .null, .null, .null, .null, .int 0]))] sz) (mainW cA u.1 u.2)) (va_A [(a, .inr (4, [.null, .null, .null, .null, .null, .null, .null, .int 0]))] sz)) 55 757 (va_A [(a, .inr (4, [.null, .null, .null, .null, .null, .null, .null, .int 0]))] sz) := by
  refine m_in (cc := cX4_init) (maxL := 1) (own := RX4) 55 757 (by decide) rfl rfl (Nat.le_of_ble_eq_true rfl) (fun {p e s m args below meth c} A C hin => ?_)
  refine g_aload_n C (pc := 0) dX4_init_0 0 rfl ?_
  refine g_objInit C (pc := 1) (List.mem_of_getElem? (i := 1) rfl) (List.mem_of_getElem? (i := 2) rfl) (List.mem_of_getElem? (i := 3) rfl) dX4_init_1 (Nat.le_of_ble_eq_true rfl) (Nat.le_of_ble_eq_true rfl) ?_
  refine g_aload_n C (pc := 4) dX4_init_4 0 rfl ?_
  refine g_new C (pc := 5) (ci := 0) (fs := [.null, .null, .null, .int 0, .int 0, .int 0, .int 0, .int 0, .int 0, .int 0, .int 0, .int 0, .int 0, .int 0, .int 0, .int 0, .int 0, .int 0]) inX4_init_0 tyX0 tyX0_ok (List.mem_of_getElem? (i := 4) rfl) (List.mem_of_getElem? (i := 5) rfl) (List.mem_of_getElem? (i := 6) rfl) rfl (fun j hj => by rcases (show j = 0 ∨ j = 1 ∨ j = 2 ∨ j = 3 ∨ j = 4 ∨ j = 5 ∨ j = 6 ∨ j = 7 ∨ j = 8 ∨ j = 9 ∨ j = 10 ∨ j = 11 ∨ j = 12 ∨ j = 13 ∨ j = 14 ∨ j = 15 ∨ j = 16 ∨ j = 17 by omega) with rfl | rfl | rfl | rfl | rfl | rfl | rfl | rfl | rfl | rfl | rfl | rfl | rfl | rfl | rfl | rfl | rfl | rfl <;> rfl) ⟨Nat.le_of_ble_eq_true rfl, Nat.le_of_ble_eq_true rfl⟩ dX4_init_5 (fun q5 => ?_)
  refine g_dup C (pc := 8) dX4_init_8 rfl ?_
  refine g_init C (pc := 9) (As := []) (b := q5) (kX0_init l D cA T q5) (show ViewN (((a, .inr (4, [.null, .null, .null, .null, .null, .null, .null, .int 0])) :: []) ++ [(q5, .inr (0, [.null, .null, .null, .int 0, .int 0, .int 0, .int 0, .int 0, .int 0, .int 0, .int 0, .int 0, .int 0, .int 0, .int 0, .int 0, .int 0, .int 0]))]) [(q5, .inr (0, [.null, .null, .null, .int 0, .int 0, .int 0, .int 0, .int 0, .int 0, .int 0, .int 0, .int 0, .int 0, .int 0, .int 0, .int 0, .int 0, .int 0]))] (fun u : (Nat → Nat) × St => birdW cA u.1 u.2) (fun u => ((a, .inr (4, [.null, .null, .null, .null, .null, .null, .null, .int 0])) :: []) ++ (fun u : (Nat → Nat) × St => birdW cA u.1 u.2) u) from ⟨((a, .inr (4, [.null, .null, .null, .null, .null, .null, .null, .int 0])) :: []), [1], [0], [0, 1, 2, 3, 4, 5, 6, 7, 8, 9, 10, 11, 12], rfl, rfl, rfl, rfl, by decide, rfl, fun u => rfl⟩) gX4_init_X0_init rfl ⟨rfl, rfl⟩ ⟨Nat.le_of_ble_eq_true rfl, Nat.le_of_ble_eq_true rfl⟩ ⟨Nat.le_of_ble_eq_true rfl, Nat.le_of_ble_eq_true rfl⟩ rfl (Nat.le_of_ble_eq_true rfl) hdS_X0_init (List.mem_of_getElem? (i := 6) rfl) (List.mem_of_getElem? (i := 21) rfl) (List.mem_of_getElem? (i := 22) rfl) rfl rfl dX4_init_9 (fun z hz => ?_)
  obtain ⟨h1, Mb1⟩ := z
  obtain ⟨e1, eMb1, hzb1⟩ := hz
  dsimp only at e1 eMb1
  subst e1
  refine g_putF C (pc := 12) tyX4 tyX4_ok nmX4 inX4_init_4 rfl 0 (by decide) rfl hin rfl (List.mem_of_getElem? (i := 7) rfl) dX4_init_12 rfl rfl 0 rfl (Nat.le_of_ble_eq_true rfl) (ws2 := ((a, .inr (4, [.ref (h1 0), .null, .null, .null, .null, .null, .null, .int 0])) :: birdW cA h1 Mb1)) rfl ?_
  refine g_aload_n C (pc := 15) dX4_init_15 0 rfl ?_
  refine g_new C (pc := 16) (ci := 0) (fs := [.null, .null, .null, .int 0, .int 0, .int 0, .int 0, .int 0, .int 0, .int 0, .int 0, .int 0, .int 0, .int 0, .int 0, .int 0, .int 0, .int 0]) inX4_init_0 tyX0 tyX0_ok (List.mem_of_getElem? (i := 4) rfl) (List.mem_of_getElem? (i := 5) rfl) (List.mem_of_getElem? (i := 6) rfl) rfl (fun j hj => by rcases (show j = 0 ∨ j = 1 ∨ j = 2 ∨ j = 3 ∨ j = 4 ∨ j = 5 ∨ j = 6 ∨ j = 7 ∨ j = 8 ∨ j = 9 ∨ j = 10 ∨ j = 11 ∨ j = 12 ∨ j = 13 ∨ j = 14 ∨ j = 15 ∨ j = 16 ∨ j = 17 by omega) with rfl | rfl | rfl | rfl | rfl | rfl | rfl | rfl | rfl | rfl | rfl | rfl | rfl | rfl | rfl | rfl | rfl | rfl <;> rfl) ⟨Nat.le_of_ble_eq_true rfl, Nat.le_of_ble_eq_true rfl⟩ dX4_init_16 (fun q16 => ?_)
  refine g_dup C (pc := 19) dX4_init_19 rfl ?_
  refine g_init C (pc := 20) (As := []) (b := q16) (kX0_init l D cA T q16) (show ViewN (((a, .inr (4, [.ref (h1 0), .null, .null, .null, .null, .null, .null, .int 0])) :: birdW cA h1 Mb1) ++ [(q16, .inr (0, [.null, .null, .null, .int 0, .int 0, .int 0, .int 0, .int 0, .int 0, .int 0, .int 0, .int 0, .int 0, .int 0, .int 0, .int 0, .int 0, .int 0]))]) [(q16, .inr (0, [.null, .null, .null, .int 0, .int 0, .int 0, .int 0, .int 0, .int 0, .int 0, .int 0, .int 0, .int 0, .int 0, .int 0, .int 0, .int 0, .int 0]))] (fun u : (Nat → Nat) × St => birdW cA u.1 u.2) (fun u => ((a, .inr (4, [.ref (h1 0), .null, .null, .null, .null, .null, .null, .int 0])) :: birdW cA h1 Mb1) ++ (fun u : (Nat → Nat) × St => birdW cA u.1 u.2) u) from ⟨((a, .inr (4, [.ref (h1 0), .null, .null, .null, .null, .null, .null, .int 0])) :: birdW cA h1 Mb1), [13], [0, 1, 2, 3, 4, 5, 6, 7, 8, 9, 10, 11, 12], [0, 1, 2, 3, 4, 5, 6, 7, 8, 9, 10, 11, 12, 13, 14, 15, 16, 17, 18, 19, 20, 21, 22, 23, 24], rfl, rfl, rfl, rfl, by decide, rfl, fun u => rfl⟩) gX4_init_X0_init rfl ⟨rfl, rfl⟩ ⟨Nat.le_of_ble_eq_true rfl, Nat.le_of_ble_eq_true rfl⟩ ⟨Nat.le_of_ble_eq_true rfl, Nat.le_of_ble_eq_true rfl⟩ rfl (Nat.le_of_ble_eq_true rfl) hdS_X0_init (List.mem_of_getElem? (i := 6) rfl) (List.mem_of_getElem? (i := 21) rfl) (List.mem_of_getElem? (i := 22) rfl) rfl rfl dX4_init_20 (fun z hz => ?_)
  obtain ⟨h2, Mb2⟩ := z
  obtain ⟨e2, eMb2, hzb2⟩ := hz
  dsimp only at e2 eMb2
  subst e2
  refine g_putF C (pc := 23) tyX4 tyX4_ok nmX4 inX4_init_4 rfl 1 (by decide) rfl hin rfl (List.mem_of_getElem? (i := 8) rfl) dX4_init_23 rfl rfl 0 rfl (Nat.le_of_ble_eq_true rfl) (ws2 := ((a, .inr (4, [.ref (h1 0), .ref (h2 0), .null, .null, .null, .null, .null, .int 0])) :: (birdW cA h1 Mb1 ++ birdW cA h2 Mb2))) rfl ?_
  refine g_aload_n C (pc := 26) dX4_init_26 0 rfl ?_
  refine g_new C (pc := 27) (ci := 0) (fs := [.null, .null, .null, .int 0, .int 0, .int 0, .int 0, .int 0, .int 0, .int 0, .int 0, .int 0, .int 0, .int 0, .int 0, .int 0, .int 0, .int 0]) inX4_init_0 tyX0 tyX0_ok (List.mem_of_getElem? (i := 4) rfl) (List.mem_of_getElem? (i := 5) rfl) (List.mem_of_getElem? (i := 6) rfl) rfl (fun j hj => by rcases (show j = 0 ∨ j = 1 ∨ j = 2 ∨ j = 3 ∨ j = 4 ∨ j = 5 ∨ j = 6 ∨ j = 7 ∨ j = 8 ∨ j = 9 ∨ j = 10 ∨ j = 11 ∨ j = 12 ∨ j = 13 ∨ j = 14 ∨ j = 15 ∨ j = 16 ∨ j = 17 by omega) with rfl | rfl | rfl | rfl | rfl | rfl | rfl | rfl | rfl | rfl | rfl | rfl | rfl | rfl | rfl | rfl | rfl | rfl <;> rfl) ⟨Nat.le_of_ble_eq_true rfl, Nat.le_of_ble_eq_true rfl⟩ dX4_init_27 (fun q27 => ?_)
  refine g_dup C (pc := 30) dX4_init_30 rfl ?_
  refine g_init C (pc := 31) (As := []) (b := q27) (kX0_init l D cA T q27) (show ViewN (((a, .inr (4, [.ref (h1 0), .ref (h2 0), .null, .null, .null, .null, .null, .int 0])) :: (birdW cA h1 Mb1 ++ birdW cA h2 Mb2)) ++ [(q27, .inr (0, [.null, .null, .null, .int 0, .int 0, .int 0, .int 0, .int 0, .int 0, .int 0, .int 0, .int 0, .int 0, .int 0, .int 0, .int 0, .int 0, .int 0]))]) [(q27, .inr (0, [.null, .null, .null, .int 0, .int 0, .int 0, .int 0, .int 0, .int 0, .int 0, .int 0, .int 0, .int 0, .int 0, .int 0, .int 0, .int 0, .int 0]))] (fun u : (Nat → Nat) × St => birdW cA u.1 u.2) (fun u => ((a, .inr (4, [.ref (h1 0), .ref (h2 0), .null, .null, .null, .null, .null, .int 0])) :: (birdW cA h1 Mb1 ++ birdW cA h2 Mb2)) ++ (fun u : (Nat → Nat) × St => birdW cA u.1 u.2) u) from ⟨((a, .inr (4, [.ref (h1 0), .ref (h2 0), .null, .null, .null, .null, .null, .int 0])) :: (birdW cA h1 Mb1 ++ birdW cA h2 Mb2)), [25], [0, 1, 2, 3, 4, 5, 6, 7, 8, 9, 10, 11, 12, 13, 14, 15, 16, 17, 18, 19, 20, 21, 22, 23, 24], [0, 1, 2, 3, 4, 5, 6, 7, 8, 9, 10, 11, 12, 13, 14, 15, 16, 17, 18, 19, 20, 21, 22, 23, 24, 25, 26, 27, 28, 29, 30, 31, 32, 33, 34, 35, 36], rfl, rfl, rfl, rfl, by decide, rfl, fun u => rfl⟩) gX4_init_X0_init rfl ⟨rfl, rfl⟩ ⟨Nat.le_of_ble_eq_true rfl, Nat.le_of_ble_eq_true rfl⟩ ⟨Nat.le_of_ble_eq_true rfl, Nat.le_of_ble_eq_true rfl⟩ rfl (Nat.le_of_ble_eq_true rfl) hdS_X0_init (List.mem_of_getElem? (i := 6) rfl) (List.mem_of_getElem? (i := 21) rfl) (List.mem_of_getElem? (i := 22) rfl) rfl rfl dX4_init_31 (fun z hz => ?_)
  obtain ⟨h3, Mb3⟩ := z
  obtain ⟨e3, eMb3, hzb3⟩ := hz
  dsimp only at e3 eMb3
  subst e3
  refine g_putF C (pc := 34) tyX4 tyX4_ok nmX4 inX4_init_4 rfl 2 (by decide) rfl hin rfl (List.mem_of_getElem? (i := 9) rfl) dX4_init_34 rfl rfl 0 rfl (Nat.le_of_ble_eq_true rfl) (ws2 := ((a, .inr (4, [.ref (h1 0), .ref (h2 0), .ref (h3 0), .null, .null, .null, .null, .int 0])) :: (birdW cA h1 Mb1 ++ (birdW cA h2 Mb2 ++ birdW cA h3 Mb3)))) rfl ?_
  refine g_aload_n C (pc := 37) dX4_init_37 0 rfl ?_
  refine g_new C (pc := 38) (ci := 0) (fs := [.null, .null, .null, .int 0, .int 0, .int 0, .int 0, .int 0, .int 0, .int 0, .int 0, .int 0, .int 0, .int 0, .int 0, .int 0, .int 0, .int 0]) inX4_init_0 tyX0 tyX0_ok (List.mem_of_getElem? (i := 4) rfl) (List.mem_of_getElem? (i := 5) rfl) (List.mem_of_getElem? (i := 6) rfl) rfl (fun j hj => by rcases (show j = 0 ∨ j = 1 ∨ j = 2 ∨ j = 3 ∨ j = 4 ∨ j = 5 ∨ j = 6 ∨ j = 7 ∨ j = 8 ∨ j = 9 ∨ j = 10 ∨ j = 11 ∨ j = 12 ∨ j = 13 ∨ j = 14 ∨ j = 15 ∨ j = 16 ∨ j = 17 by omega) with rfl | rfl | rfl | rfl | rfl | rfl | rfl | rfl | rfl | rfl | rfl | rfl | rfl | rfl | rfl | rfl | rfl | rfl <;> rfl) ⟨Nat.le_of_ble_eq_true rfl, Nat.le_of_ble_eq_true rfl⟩ dX4_init_38 (fun q38 => ?_)
  refine g_dup C (pc := 41) dX4_init_41 rfl ?_
  refine g_init C (pc := 42) (As := []) (b := q38) (kX0_init l D cA T q38) (show ViewN (((a, .inr (4, [.ref (h1 0), .ref (h2 0), .ref (h3 0), .null, .null, .null, .null, .int 0])) :: (birdW cA h1 Mb1 ++ (birdW cA h2 Mb2 ++ birdW cA h3 Mb3))) ++ [(q38, .inr (0, [.null, .null, .null, .int 0, .int 0, .int 0, .int 0, .int 0, .int 0, .int 0, .int 0, .int 0, .int 0, .int 0, .int 0, .int 0, .int 0, .int 0]))]) [(q38, .inr (0, [.null, .null, .null, .int 0, .int 0, .int 0, .int 0, .int 0, .int 0, .int 0, .int 0, .int 0, .int 0, .int 0, .int 0, .int 0, .int 0, .int 0]))] (fun u : (Nat → Nat) × St => birdW cA u.1 u.2) (fun u => ((a, .inr (4, [.ref (h1 0), .ref (h2 0), .ref (h3 0), .null, .null, .null, .null, .int 0])) :: (birdW cA h1 Mb1 ++ (birdW cA h2 Mb2 ++ birdW cA h3 Mb3))) ++ (fun u : (Nat → Nat) × St => birdW cA u.1 u.2) u) from ⟨((a, .inr (4, [.ref (h1 0), .ref (h2 0), .ref (h3 0), .null, .null, .null, .null, .int 0])) :: (birdW cA h1 Mb1 ++ (birdW cA h2 Mb2 ++ birdW cA h3 Mb3))), [37], [0, 1, 2, 3, 4, 5, 6, 7, 8, 9, 10, 11, 12, 13, 14, 15, 16, 17, 18, 19, 20, 21, 22, 23, 24, 25, 26, 27, 28, 29, 30, 31, 32, 33, 34, 35, 36], [0, 1, 2, 3, 4, 5, 6, 7, 8, 9, 10, 11, 12, 13, 14, 15, 16, 17, 18, 19, 20, 21, 22, 23, 24, 25, 26, 27, 28, 29, 30, 31, 32, 33, 34, 35, 36, 37, 38, 39, 40, 41, 42, 43, 44, 45, 46, 47, 48], rfl, rfl, rfl, rfl, by decide, rfl, fun u => rfl⟩) gX4_init_X0_init rfl ⟨rfl, rfl⟩ ⟨Nat.le_of_ble_eq_true rfl, Nat.le_of_ble_eq_true rfl⟩ ⟨Nat.le_of_ble_eq_true rfl, Nat.le_of_ble_eq_true rfl⟩ rfl (Nat.le_of_ble_eq_true rfl) hdS_X0_init (List.mem_of_getElem? (i := 6) rfl) (List.mem_of_getElem? (i := 21) rfl) (List.mem_of_getElem? (i := 22) rfl) rfl rfl dX4_init_42 (fun z hz => ?_)
  obtain ⟨h4, Mb4⟩ := z
  obtain ⟨e4, eMb4, hzb4⟩ := hz
  dsimp only at e4 eMb4
  subst e4
  refine g_putF C (pc := 45) tyX4 tyX4_ok nmX4 inX4_init_4 rfl 3 (by decide) rfl hin rfl (List.mem_of_getElem? (i := 10) rfl) dX4_init_45 rfl rfl 0 rfl (Nat.le_of_ble_eq_true rfl) (ws2 := ((a, .inr (4, [.ref (h1 0), .ref (h2 0), .ref (h3 0), .ref (h4 0), .null, .null, .null, .int 0])) :: (birdW cA h1 Mb1 ++ (birdW cA h2 Mb2 ++ (birdW cA h3 Mb3 ++ birdW cA h4 Mb4))))) rfl ?_
  refine g_aload_n C (pc := 48) dX4_init_48 0 rfl ?_
  refine g_new C (pc := 49) (ci := 3) (fs := [.null, .int 0, .int 0, .int 0, .int 0, .int 0]) inX4_init_3 tyX3 tyX3_ok (List.mem_of_getElem? (i := 11) rfl) (List.mem_of_getElem? (i := 12) rfl) (List.mem_of_getElem? (i := 13) rfl) rfl (fun j hj => by rcases (show j = 0 ∨ j = 1 ∨ j = 2 ∨ j = 3 ∨ j = 4 ∨ j = 5 by omega) with rfl | rfl | rfl | rfl | rfl | rfl <;> rfl) ⟨Nat.le_of_ble_eq_true rfl, Nat.le_of_ble_eq_true rfl⟩ dX4_init_49 (fun q49 => ?_)
  refine g_dup C (pc := 52) dX4_init_52 rfl ?_
  refine g_initN C (pc := 53) (As := []) (b := q49) (kX3_init l D cA T q49) (show ViewN (((a, .inr (4, [.ref (h1 0), .ref (h2 0), .ref (h3 0), .ref (h4 0), .null, .null, .null, .int 0])) :: (birdW cA h1 Mb1 ++ (birdW cA h2 Mb2 ++ (birdW cA h3 Mb3 ++ birdW cA h4 Mb4)))) ++ [(q49, .inr (3, [.null, .int 0, .int 0, .int 0, .int 0, .int 0]))]) [(q49, .inr (3, [.null, .int 0, .int 0, .int 0, .int 0, .int 0]))] (fun u : (Nat → Nat) × St => tapeW cA u.1 u.2) (fun u => ((a, .inr (4, [.ref (h1 0), .ref (h2 0), .ref (h3 0), .ref (h4 0), .null, .null, .null, .int 0])) :: (birdW cA h1 Mb1 ++ (birdW cA h2 Mb2 ++ (birdW cA h3 Mb3 ++ birdW cA h4 Mb4)))) ++ (fun u : (Nat → Nat) × St => tapeW cA u.1 u.2) u) from ⟨((a, .inr (4, [.ref (h1 0), .ref (h2 0), .ref (h3 0), .ref (h4 0), .null, .null, .null, .int 0])) :: (birdW cA h1 Mb1 ++ (birdW cA h2 Mb2 ++ (birdW cA h3 Mb3 ++ birdW cA h4 Mb4)))), [49], [0, 1, 2, 3, 4, 5, 6, 7, 8, 9, 10, 11, 12, 13, 14, 15, 16, 17, 18, 19, 20, 21, 22, 23, 24, 25, 26, 27, 28, 29, 30, 31, 32, 33, 34, 35, 36, 37, 38, 39, 40, 41, 42, 43, 44, 45, 46, 47, 48], [0, 1, 2, 3, 4, 5, 6, 7, 8, 9, 10, 11, 12, 13, 14, 15, 16, 17, 18, 19, 20, 21, 22, 23, 24, 25, 26, 27, 28, 29, 30, 31, 32, 33, 34, 35, 36, 37, 38, 39, 40, 41, 42, 43, 44, 45, 46, 47, 48, 49, 50, 51], rfl, rfl, rfl, rfl, by decide, rfl, fun u => rfl⟩) gX4_init_X3_init_n27 rfl ⟨rfl, rfl⟩ ⟨Nat.le_of_ble_eq_true rfl, Nat.le_of_ble_eq_true rfl⟩ ⟨Nat.le_of_ble_eq_true rfl, Nat.le_of_ble_eq_true rfl⟩ rfl (Nat.le_of_ble_eq_true rfl) hdS_X3_init (List.mem_of_getElem? (i := 13) rfl) (C.2.2.2.2.2.2.2.2.2.2.2.2.2.1) (List.mem_of_getElem? (i := 77) rfl) rfl rfl dX4_init_53 (fun z hz => ?_)
  obtain ⟨h5, Mb5⟩ := z
  obtain ⟨e5, eMb5, -⟩ := hz
  dsimp only at e5 eMb5
  subst e5
  subst eMb5
  refine g_putF C (pc := 56) tyX4 tyX4_ok nmX4 inX4_init_4 rfl 4 (by decide) rfl hin rfl (List.mem_of_getElem? (i := 14) rfl) dX4_init_56 rfl rfl 0 rfl (Nat.le_of_ble_eq_true rfl) (ws2 := ((a, .inr (4, [.ref (h1 0), .ref (h2 0), .ref (h3 0), .ref (h4 0), .ref (h5 0), .null, .null, .int 0])) :: (birdW cA h1 Mb1 ++ (birdW cA h2 Mb2 ++ (birdW cA h3 Mb3 ++ (birdW cA h4 Mb4 ++ tapeW cA h5 Mz)))))) rfl ?_
  refine g_aload_n C (pc := 59) dX4_init_59 0 rfl ?_
  refine g_new C (pc := 60) (ci := 1) (fs := [.null, .int 0]) inX4_init_1 tyX1 tyX1_ok (List.mem_of_getElem? (i := 15) rfl) (List.mem_of_getElem? (i := 16) rfl) (List.mem_of_getElem? (i := 17) rfl) rfl (fun j hj => by rcases (show j = 0 ∨ j = 1 by omega) with rfl | rfl <;> rfl) ⟨Nat.le_of_ble_eq_true rfl, Nat.le_of_ble_eq_true rfl⟩ dX4_init_60 (fun q60 => ?_)
  refine g_dup C (pc := 63) dX4_init_63 rfl ?_
  refine g_bipush C (pc := 64) dX4_init_64 cB_10 ?_
  refine g_init C (pc := 66) (As := [.int 10]) (b := q60) (kX1_init l D cA T q60 10 (by decide) (by decide)) (show ViewN (((a, .inr (4, [.ref (h1 0), .ref (h2 0), .ref (h3 0), .ref (h4 0), .ref (h5 0), .null, .null, .int 0])) :: (birdW cA h1 Mb1 ++ (birdW cA h2 Mb2 ++ (birdW cA h3 Mb3 ++ (birdW cA h4 Mb4 ++ tapeW cA h5 Mz))))) ++ [(q60, .inr (1, [.null, .int 0]))]) [(q60, .inr (1, [.null, .int 0]))] (fun u : (Nat → Nat) × St => cellsW cA 10 u.1 u.2) (fun u => ((a, .inr (4, [.ref (h1 0), .ref (h2 0), .ref (h3 0), .ref (h4 0), .ref (h5 0), .null, .null, .int 0])) :: (birdW cA h1 Mb1 ++ (birdW cA h2 Mb2 ++ (birdW cA h3 Mb3 ++ (birdW cA h4 Mb4 ++ tapeW cA h5 Mz))))) ++ (fun u : (Nat → Nat) × St => cellsW cA 10 u.1 u.2) u) from ⟨((a, .inr (4, [.ref (h1 0), .ref (h2 0), .ref (h3 0), .ref (h4 0), .ref (h5 0), .null, .null, .int 0])) :: (birdW cA h1 Mb1 ++ (birdW cA h2 Mb2 ++ (birdW cA h3 Mb3 ++ (birdW cA h4 Mb4 ++ tapeW cA h5 Mz))))), [52], [0, 1, 2, 3, 4, 5, 6, 7, 8, 9, 10, 11, 12, 13, 14, 15, 16, 17, 18, 19, 20, 21, 22, 23, 24, 25, 26, 27, 28, 29, 30, 31, 32, 33, 34, 35, 36, 37, 38, 39, 40, 41, 42, 43, 44, 45, 46, 47, 48, 49, 50, 51], [0, 1, 2, 3, 4, 5, 6, 7, 8, 9, 10, 11, 12, 13, 14, 15, 16, 17, 18, 19, 20, 21, 22, 23, 24, 25, 26, 27, 28, 29, 30, 31, 32, 33, 34, 35, 36, 37, 38, 39, 40, 41, 42, 43, 44, 45, 46, 47, 48, 49, 50, 51, 52, 53], rfl, rfl, rfl, rfl, by decide, rfl, fun u => rfl⟩) gX4_init_X1_init rfl ⟨rfl, rfl⟩ ⟨Nat.le_of_ble_eq_true rfl, Nat.le_of_ble_eq_true rfl⟩ ⟨Nat.le_of_ble_eq_true rfl, Nat.le_of_ble_eq_true rfl⟩ rfl (Nat.le_of_ble_eq_true rfl) hdS_X1_init (List.mem_of_getElem? (i := 17) rfl) (List.mem_of_getElem? (i := 88) rfl) (List.mem_of_getElem? (i := 48) rfl) rfl rfl dX4_init_66 (fun z hz => ?_)
  obtain ⟨h6, Mb6⟩ := z
  obtain ⟨e6, eMb6⟩ := hz
  dsimp only at e6 eMb6
  subst e6
  subst eMb6
  refine g_putF C (pc := 69) tyX4 tyX4_ok nmX4 inX4_init_4 rfl 5 (by decide) rfl hin rfl (List.mem_of_getElem? (i := 18) rfl) dX4_init_69 rfl rfl 0 rfl (Nat.le_of_ble_eq_true rfl) (ws2 := ((a, .inr (4, [.ref (h1 0), .ref (h2 0), .ref (h3 0), .ref (h4 0), .ref (h5 0), .ref (h6 0), .null, .int 0])) :: (birdW cA h1 Mb1 ++ (birdW cA h2 Mb2 ++ (birdW cA h3 Mb3 ++ (birdW cA h4 Mb4 ++ (tapeW cA h5 Mz ++ cellsW cA 10 h6 Mz))))))) rfl ?_
  refine g_aload_n C (pc := 72) dX4_init_72 0 rfl ?_
  refine g_new C (pc := 73) (ci := 1) (fs := [.null, .int 0]) inX4_init_1 tyX1 tyX1_ok (List.mem_of_getElem? (i := 15) rfl) (List.mem_of_getElem? (i := 16) rfl) (List.mem_of_getElem? (i := 17) rfl) rfl (fun j hj => by rcases (show j = 0 ∨ j = 1 by omega) with rfl | rfl <;> rfl) ⟨Nat.le_of_ble_eq_true rfl, Nat.le_of_ble_eq_true rfl⟩ dX4_init_73 (fun q73 => ?_)
  refine g_dup C (pc := 76) dX4_init_76 rfl ?_
  refine g_bipush C (pc := 77) dX4_init_77 cB_7 ?_
  refine g_init C (pc := 79) (As := [.int 7]) (b := q73) (kX1_init l D cA T q73 7 (by decide) (by decide)) (show ViewN (((a, .inr (4, [.ref (h1 0), .ref (h2 0), .ref (h3 0), .ref (h4 0), .ref (h5 0), .ref (h6 0), .null, .int 0])) :: (birdW cA h1 Mb1 ++ (birdW cA h2 Mb2 ++ (birdW cA h3 Mb3 ++ (birdW cA h4 Mb4 ++ (tapeW cA h5 Mz ++ cellsW cA 10 h6 Mz)))))) ++ [(q73, .inr (1, [.null, .int 0]))]) [(q73, .inr (1, [.null, .int 0]))] (fun u : (Nat → Nat) × St => cellsW cA 7 u.1 u.2) (fun u => ((a, .inr (4, [.ref (h1 0), .ref (h2 0), .ref (h3 0), .ref (h4 0), .ref (h5 0), .ref (h6 0), .null, .int 0])) :: (birdW cA h1 Mb1 ++ (birdW cA h2 Mb2 ++ (birdW cA h3 Mb3 ++ (birdW cA h4 Mb4 ++ (tapeW cA h5 Mz ++ cellsW cA 10 h6 Mz)))))) ++ (fun u : (Nat → Nat) × St => cellsW cA 7 u.1 u.2) u) from ⟨((a, .inr (4, [.ref (h1 0), .ref (h2 0), .ref (h3 0), .ref (h4 0), .ref (h5 0), .ref (h6 0), .null, .int 0])) :: (birdW cA h1 Mb1 ++ (birdW cA h2 Mb2 ++ (birdW cA h3 Mb3 ++ (birdW cA h4 Mb4 ++ (tapeW cA h5 Mz ++ cellsW cA 10 h6 Mz)))))), [54], [0, 1, 2, 3, 4, 5, 6, 7, 8, 9, 10, 11, 12, 13, 14, 15, 16, 17, 18, 19, 20, 21, 22, 23, 24, 25, 26, 27, 28, 29, 30, 31, 32, 33, 34, 35, 36, 37, 38, 39, 40, 41, 42, 43, 44, 45, 46, 47, 48, 49, 50, 51, 52, 53], [0, 1, 2, 3, 4, 5, 6, 7, 8, 9, 10, 11, 12, 13, 14, 15, 16, 17, 18, 19, 20, 21, 22, 23, 24, 25, 26, 27, 28, 29, 30, 31, 32, 33, 34, 35, 36, 37, 38, 39, 40, 41, 42, 43, 44, 45, 46, 47, 48, 49, 50, 51, 52, 53, 54, 55], rfl, rfl, rfl, rfl, by decide, rfl, fun u => rfl⟩) gX4_init_X1_init rfl ⟨rfl, rfl⟩ ⟨Nat.le_of_ble_eq_true rfl, Nat.le_of_ble_eq_true rfl⟩ ⟨Nat.le_of_ble_eq_true rfl, Nat.le_of_ble_eq_true rfl⟩ rfl (Nat.le_of_ble_eq_true rfl) hdS_X1_init (List.mem_of_getElem? (i := 17) rfl) (List.mem_of_getElem? (i := 88) rfl) (List.mem_of_getElem? (i := 48) rfl) rfl rfl dX4_init_79 (fun z hz => ?_)
  obtain ⟨h7, Mb7⟩ := z
  obtain ⟨e7, eMb7⟩ := hz
  dsimp only at e7 eMb7
  subst e7
  subst eMb7
  refine g_putF C (pc := 82) tyX4 tyX4_ok nmX4 inX4_init_4 rfl 6 (by decide) rfl hin rfl (List.mem_of_getElem? (i := 19) rfl) dX4_init_82 rfl rfl 0 rfl (Nat.le_of_ble_eq_true rfl) (ws2 := ((a, .inr (4, [.ref (h1 0), .ref (h2 0), .ref (h3 0), .ref (h4 0), .ref (h5 0), .ref (h6 0), .ref (h7 0), .int 0])) :: (birdW cA h1 Mb1 ++ (birdW cA h2 Mb2 ++ (birdW cA h3 Mb3 ++ (birdW cA h4 Mb4 ++ (tapeW cA h5 Mz ++ (cellsW cA 10 h6 Mz ++ cellsW cA 7 h7 Mz)))))))) rfl ?_
  obtain ⟨h, M, ha, hM, hw⟩ : ∃ (h : Nat → Nat) (M : St), h 0 = a ∧ M = (put 37 12 Mb4 (put 25 12 Mb3 (put 13 12 Mb2 (put 1 12 Mb1 Mz)))) ∧ ((a, .inr (4, [.ref (h1 0), .ref (h2 0), .ref (h3 0), .ref (h4 0), .ref (h5 0), .ref (h6 0), .ref (h7 0), .int 0])) :: (birdW cA h1 Mb1 ++ (birdW cA h2 Mb2 ++ (birdW cA h3 Mb3 ++ (birdW cA h4 Mb4 ++ (tapeW cA h5 Mz ++ (cellsW cA 10 h6 Mz ++ cellsW cA 7 h7 Mz))))))) = mainW cA h M := ⟨(fun k : Nat => bif Nat.beq k 0 then a else (bif Nat.blt k 13 then h1 (k - 1) else (bif Nat.blt k 25 then h2 (k - 13) else (bif Nat.blt k 37 then h3 (k - 25) else (bif Nat.blt k 49 then h4 (k - 37) else (bif Nat.blt k 52 then h5 (k - 49) else (bif Nat.blt k 54 then h6 (k - 52) else (h7 (k - 54))))))))), _, rfl, rfl, rfl⟩
  refine g_conv hw ?_
  clear hw
  subst ha
  have hz : Zmain M := by rw [hM]; exact ⟨hzb1.1, hzb1.2.1, hzb1.2.2.1, hzb1.2.2.2.1, hzb1.2.2.2.2, hzb2.1, hzb2.2.1, hzb2.2.2.1, hzb2.2.2.2.1, hzb2.2.2.2.2, hzb3.1, hzb3.2.1, hzb3.2.2.1, hzb3.2.2.2.1, hzb3.2.2.2.2, hzb4.1, hzb4.2.1, hzb4.2.2.1, hzb4.2.2.2.1, hzb4.2.2.2.2, (cz_of0 rfl (Nat.le_of_ble_eq_true rfl)), (cz_of0 rfl (Nat.le_of_ble_eq_true rfl)), (cz_of0 rfl (Nat.le_of_ble_eq_true rfl))⟩
  refine g_widen 55 757 (by decide) (by decide) ?_
  refine g_prog (xX4_initT M) ?_
  unfold xX4_initT
  refine g_aload_n C (pc := 85) dX4_init_85 0 rfl ?_
  refine g_iconst C (pc := 86) dX4_init_86 cI_0 ?_
  refine g_put C (pc := 87) tyX4 tyX4_ok nmX4 inX4_init_4 rfl 7 (by decide) rfl (List.mem_of_getElem? (i := 20) rfl) dX4_init_87 rfl rfl 0 rfl (Nat.le_of_ble_eq_true rfl) (mainW cA h) (sa M 0 (up (M 0) 7 0)) rfl (fun M1 eM1 => ?_)
  have hz1 : (Zmain M1) := by rw [eM1]; exact hz
  refine g_aload_n C (pc := 90) dX4_init_90 0 rfl ?_
  refine g_get C (pc := 91) inX4_init_4 rfl 6 (by decide) (List.mem_of_getElem? (i := 19) rfl) dX4_init_91 0 rfl (.ref (h 54)) rfl ?_
  refine g_Vev C (pc := 94) (As := []) (kX1_fillUp l D cA T 7 (sh 54 h) (sh 54 M1) hz1.2.2.2.2.2.2.2.2.2.2.2.2.2.2.2.2.2.2.2.2.2.2) (v_main_cells_54 cA h M1) gX4_init_X1_fillUp rfl ⟨rfl, rfl⟩ ⟨Nat.le_of_ble_eq_true rfl, Nat.le_of_ble_eq_true rfl⟩ ⟨Nat.le_of_ble_eq_true rfl, Nat.le_of_ble_eq_true rfl⟩ rfl (Nat.le_of_ble_eq_true rfl) hdV_X1_fillUp 0 rfl rfl rfl dX4_init_94 (fun z2 ez2 hz_z2 => ?_)
  refine g_nmW (mainW cA h) (fun M3 eM3 => ?_)
  have hz3 : (Zmain M3) := by rw [eM3]; exact ⟨hz1.1, hz1.2.1, hz1.2.2.1, hz1.2.2.2.1, hz1.2.2.2.2.1, hz1.2.2.2.2.2.1, hz1.2.2.2.2.2.2.1, hz1.2.2.2.2.2.2.2.1, hz1.2.2.2.2.2.2.2.2.1, hz1.2.2.2.2.2.2.2.2.2.1, hz1.2.2.2.2.2.2.2.2.2.2.1, hz1.2.2.2.2.2.2.2.2.2.2.2.1, hz1.2.2.2.2.2.2.2.2.2.2.2.2.1, hz1.2.2.2.2.2.2.2.2.2.2.2.2.2.1, hz1.2.2.2.2.2.2.2.2.2.2.2.2.2.2.1, hz1.2.2.2.2.2.2.2.2.2.2.2.2.2.2.2.1, hz1.2.2.2.2.2.2.2.2.2.2.2.2.2.2.2.2.1, hz1.2.2.2.2.2.2.2.2.2.2.2.2.2.2.2.2.2.1, hz1.2.2.2.2.2.2.2.2.2.2.2.2.2.2.2.2.2.2.1, hz1.2.2.2.2.2.2.2.2.2.2.2.2.2.2.2.2.2.2.2.1, hz1.2.2.2.2.2.2.2.2.2.2.2.2.2.2.2.2.2.2.2.2.1, hz1.2.2.2.2.2.2.2.2.2.2.2.2.2.2.2.2.2.2.2.2.2.1, hz_z2⟩
  exact r_inT (v := (h, M3)) C rfl dX4_init_97 (fun q => ⟨rfl, (q.trans (by rw [hM, eMb1, eMb2, eMb3, eMb4]; rfl)), hz3⟩)
