theorem inX1_init_1 : ∀ w ∈ u_ws RX1 TX1 2, w ∈ wsX1_init := by decide +kernel
set_option maxHeartbeats 4000000 in
set_option maxRecDepth 100000 in
theorem kX1_init (l : Launch) (D : va_G) (cA : ClassId) (T : Nat × Nat × Nat) (a : Nat) (n : Nat) (hn1 : 0 < n) (hn2 : n < 1000) : ∀ sz : Nat, Met l yX1_init wsX1_init { frames := 1, cells := 1, slots := n, locals := 21 } (va_Pc [.ref a, .int (nI n)] (PreW D cA T [(a, .inr (1, [.null, .int 0]))] sz)) (va_Qv (fun u : (Nat → Nat) × St => u.1 0 = a ∧ u.2 = Mz) (fun u => PostW D cA (va_A [(a, .inr (1, [.null, .int 0]))] sz) (cellsW cA n u.1 u.2)) (va_A [(a, .inr (1, [.null, .int 0]))] sz)) 1 n (va_A [(a, .inr (1, [.null, .int 0]))] sz) := by
  refine m_in (cc := cX1_init) (maxL := 2) (own := RX1) 1 n (by decide) rfl rfl (Nat.le_of_ble_eq_true rfl) (fun {p e s m args below meth c} A C hin => ?_)
  refine g_aload_n C (pc := 0) dX1_init_0 0 rfl ?_
  refine g_objInit C (pc := 1) (List.mem_of_getElem? (i := 1) rfl) (List.mem_of_getElem? (i := 2) rfl) (List.mem_of_getElem? (i := 3) rfl) dX1_init_1 (Nat.le_of_ble_eq_true rfl) (Nat.le_of_ble_eq_true rfl) ?_
  refine g_aload_n C (pc := 4) dX1_init_4 0 rfl ?_
  refine g_iconst C (pc := 5) dX1_init_5 cI_0 ?_
  refine g_putL C (pc := 6) tyX1 tyX1_ok nmX1 inX1_init_1 rfl 1 (by decide) rfl (List.mem_of_getElem? (i := 4) rfl) dX1_init_6 rfl rfl 0 rfl (Nat.le_of_ble_eq_true rfl) (ws2 := [(a, .inr (1, [.null, .int 0]))]) rfl ?_
  refine g_aload_n C (pc := 9) dX1_init_9 0 rfl ?_
  refine g_iconst C (pc := 10) dX1_init_10 cI_0 ?_
  refine g_iload_n C (pc := 11) dX1_init_11 1 rfl ?_
  refine g_max C (pc := 12) (List.mem_of_getElem? (i := 5) rfl) (List.mem_of_getElem? (i := 6) rfl) (List.mem_of_getElem? (i := 7) rfl) (List.mem_of_getElem? (i := 8) rfl) ⟨Nat.le_of_ble_eq_true rfl, Nat.le_of_ble_eq_true rfl, Nat.zero_le _, Nat.zero_le _⟩ dX1_init_12 ?_
  rw [if_pos (show (0 : Int32) < nI n by rw [← nI_0]; exact nI_lt hn1 (by omega))]
  refine g_newa C (pc := 15) (n := nI n) (N := n) (List.mem_of_getElem? (i := 9) rfl) (nI_pos (by omega)) (by rw [tnc, nI_toInt (by omega)]; rfl) (by omega) ⟨Nat.le_of_ble_eq_true rfl, by show 0 + n ≤ n; omega⟩ dX1_init_15 (fun q => ?_)
  refine g_putF C (pc := 17) tyX1 tyX1_ok nmX1 inX1_init_1 rfl 0 (by decide) rfl hin rfl (List.mem_of_getElem? (i := 10) rfl) dX1_init_17 rfl rfl 0 rfl (Nat.le_of_ble_eq_true rfl) (ws2 := [(a, .inr (1, [.ref q, .int 0])), (q, .inl (cA, n, .inl (fun _ => 0)))]) rfl ?_
  refine g_widen 1 n (by decide) (by omega) ?_
  exact r_in (u := ((fun k : Nat => bif Nat.beq k 0 then a else q), Mz)) C rfl dX1_init_20 ⟨rfl, rfl⟩
theorem inX2_init_1 : ∀ w ∈ u_ws RX1 TX1 2, w ∈ wsX2_init := by decide +kernel
theorem inX2_init_2 : ∀ w ∈ u_ws RX2 TX2 3, w ∈ wsX2_init := by decide +kernel
set_option maxHeartbeats 4000000 in
set_option maxRecDepth 100000 in
theorem kX2_init (l : Launch) (D : va_G) (cA : ClassId) (T : Nat × Nat × Nat) (a : Nat) : ∀ sz : Nat, Met l yX2_init wsX2_init { frames := 2, cells := 6, slots := 66, locals := 42 } (va_Pc [.ref a] (PreW D cA T [(a, .inr (2, [.null, .null, .null]))] sz)) (va_Qv (fun u : (Nat → Nat) × St => u.1 0 = a ∧ u.2 = Mz) (fun u => PostW D cA (va_A [(a, .inr (2, [.null, .null, .null]))] sz) (hoursW cA u.1 u.2)) (va_A [(a, .inr (2, [.null, .null, .null]))] sz)) 6 66 (va_A [(a, .inr (2, [.null, .null, .null]))] sz) := by
  refine m_in (cc := cX2_init) (maxL := 1) (own := RX2) 6 66 (by decide) rfl rfl (Nat.le_of_ble_eq_true rfl) (fun {p e s m args below meth c} A C hin => ?_)
  refine g_aload_n C (pc := 0) dX2_init_0 0 rfl ?_
  refine g_objInit C (pc := 1) (List.mem_of_getElem? (i := 1) rfl) (List.mem_of_getElem? (i := 2) rfl) (List.mem_of_getElem? (i := 3) rfl) dX2_init_1 (Nat.le_of_ble_eq_true rfl) (Nat.le_of_ble_eq_true rfl) ?_
  refine g_aload_n C (pc := 4) dX2_init_4 0 rfl ?_
  refine g_new C (pc := 5) (ci := 1) (fs := [.null, .int 0]) inX2_init_1 tyX1 tyX1_ok (List.mem_of_getElem? (i := 4) rfl) (List.mem_of_getElem? (i := 5) rfl) (List.mem_of_getElem? (i := 6) rfl) rfl (fun j hj => by rcases (show j = 0 ∨ j = 1 by omega) with rfl | rfl <;> rfl) ⟨Nat.le_of_ble_eq_true rfl, Nat.le_of_ble_eq_true rfl⟩ dX2_init_5 (fun q5 => ?_)
  refine g_dup C (pc := 8) dX2_init_8 rfl ?_
  refine g_bipush C (pc := 9) dX2_init_9 cB_20 ?_
  refine g_init C (pc := 11) (As := [.int 20]) (b := q5) (kX1_init l D cA T q5 20 (by decide) (by decide)) (show View (((a, .inr (2, [.null, .null, .null])) :: []) ++ [(q5, .inr (1, [.null, .int 0]))]) [(q5, .inr (1, [.null, .int 0]))] (fun u : (Nat → Nat) × St => cellsW cA 20 u.1 u.2) (fun u => ((a, .inr (2, [.null, .null, .null])) :: []) ++ (fun u : (Nat → Nat) × St => cellsW cA 20 u.1 u.2) u) from ⟨((a, .inr (2, [.null, .null, .null])) :: []), [1], [0], [0, 1, 2], rfl, rfl, rfl, rfl, by decide, rfl, rfl, fun u => rfl⟩) gX2_init_X1_init rfl ⟨rfl, rfl⟩ ⟨Nat.le_of_ble_eq_true rfl, Nat.le_of_ble_eq_true rfl⟩ ⟨Nat.le_of_ble_eq_true rfl, Nat.le_of_ble_eq_true rfl⟩ rfl (Nat.le_of_ble_eq_true rfl) hdS_X1_init (List.mem_of_getElem? (i := 6) rfl) (List.mem_of_getElem? (i := 10) rfl) (List.mem_of_getElem? (i := 11) rfl) rfl rfl dX2_init_11 (fun z hz => ?_)
  obtain ⟨h1, M1⟩ := z
  obtain ⟨e1, eM1⟩ := hz
  dsimp only at e1 eM1
  subst e1
  subst eM1
  refine g_putF C (pc := 14) tyX2 tyX2_ok nmX2 inX2_init_2 rfl 0 (by decide) rfl hin rfl (List.mem_of_getElem? (i := 7) rfl) dX2_init_14 rfl rfl 0 rfl (Nat.le_of_ble_eq_true rfl) (ws2 := ((a, .inr (2, [.ref (h1 0), .null, .null])) :: cellsW cA 20 h1 Mz)) rfl ?_
  refine g_aload_n C (pc := 17) dX2_init_17 0 rfl ?_
  refine g_new C (pc := 18) (ci := 1) (fs := [.null, .int 0]) inX2_init_1 tyX1 tyX1_ok (List.mem_of_getElem? (i := 4) rfl) (List.mem_of_getElem? (i := 5) rfl) (List.mem_of_getElem? (i := 6) rfl) rfl (fun j hj => by rcases (show j = 0 ∨ j = 1 by omega) with rfl | rfl <;> rfl) ⟨Nat.le_of_ble_eq_true rfl, Nat.le_of_ble_eq_true rfl⟩ dX2_init_18 (fun q18 => ?_)
  refine g_dup C (pc := 21) dX2_init_21 rfl ?_
  refine g_bipush C (pc := 22) dX2_init_22 cB_20 ?_
  refine g_init C (pc := 24) (As := [.int 20]) (b := q18) (kX1_init l D cA T q18 20 (by decide) (by decide)) (show View (((a, .inr (2, [.ref (h1 0), .null, .null])) :: cellsW cA 20 h1 Mz) ++ [(q18, .inr (1, [.null, .int 0]))]) [(q18, .inr (1, [.null, .int 0]))] (fun u : (Nat → Nat) × St => cellsW cA 20 u.1 u.2) (fun u => ((a, .inr (2, [.ref (h1 0), .null, .null])) :: cellsW cA 20 h1 Mz) ++ (fun u : (Nat → Nat) × St => cellsW cA 20 u.1 u.2) u) from ⟨((a, .inr (2, [.ref (h1 0), .null, .null])) :: cellsW cA 20 h1 Mz), [3], [0, 1, 2], [0, 1, 2, 3, 4], rfl, rfl, rfl, rfl, by decide, rfl, rfl, fun u => rfl⟩) gX2_init_X1_init rfl ⟨rfl, rfl⟩ ⟨Nat.le_of_ble_eq_true rfl, Nat.le_of_ble_eq_true rfl⟩ ⟨Nat.le_of_ble_eq_true rfl, Nat.le_of_ble_eq_true rfl⟩ rfl (Nat.le_of_ble_eq_true rfl) hdS_X1_init (List.mem_of_getElem? (i := 6) rfl) (List.mem_of_getElem? (i := 10) rfl) (List.mem_of_getElem? (i := 11) rfl) rfl rfl dX2_init_24 (fun z hz => ?_)
  obtain ⟨h2, M2⟩ := z
  obtain ⟨e2, eM2⟩ := hz
  dsimp only at e2 eM2
  subst e2
  subst eM2
  refine g_putF C (pc := 27) tyX2 tyX2_ok nmX2 inX2_init_2 rfl 1 (by decide) rfl hin rfl (List.mem_of_getElem? (i := 8) rfl) dX2_init_27 rfl rfl 0 rfl (Nat.le_of_ble_eq_true rfl) (ws2 := ((a, .inr (2, [.ref (h1 0), .ref (h2 0), .null])) :: (cellsW cA 20 h1 Mz ++ cellsW cA 20 h2 Mz))) rfl ?_
  refine g_aload_n C (pc := 30) dX2_init_30 0 rfl ?_
  refine g_new C (pc := 31) (ci := 1) (fs := [.null, .int 0]) inX2_init_1 tyX1 tyX1_ok (List.mem_of_getElem? (i := 4) rfl) (List.mem_of_getElem? (i := 5) rfl) (List.mem_of_getElem? (i := 6) rfl) rfl (fun j hj => by rcases (show j = 0 ∨ j = 1 by omega) with rfl | rfl <;> rfl) ⟨Nat.le_of_ble_eq_true rfl, Nat.le_of_ble_eq_true rfl⟩ dX2_init_31 (fun q31 => ?_)
  refine g_dup C (pc := 34) dX2_init_34 rfl ?_
  refine g_bipush C (pc := 35) dX2_init_35 cB_20 ?_
  refine g_init C (pc := 37) (As := [.int 20]) (b := q31) (kX1_init l D cA T q31 20 (by decide) (by decide)) (show View (((a, .inr (2, [.ref (h1 0), .ref (h2 0), .null])) :: (cellsW cA 20 h1 Mz ++ cellsW cA 20 h2 Mz)) ++ [(q31, .inr (1, [.null, .int 0]))]) [(q31, .inr (1, [.null, .int 0]))] (fun u : (Nat → Nat) × St => cellsW cA 20 u.1 u.2) (fun u => ((a, .inr (2, [.ref (h1 0), .ref (h2 0), .null])) :: (cellsW cA 20 h1 Mz ++ cellsW cA 20 h2 Mz)) ++ (fun u : (Nat → Nat) × St => cellsW cA 20 u.1 u.2) u) from ⟨((a, .inr (2, [.ref (h1 0), .ref (h2 0), .null])) :: (cellsW cA 20 h1 Mz ++ cellsW cA 20 h2 Mz)), [5], [0, 1, 2, 3, 4], [0, 1, 2, 3, 4, 5, 6], rfl, rfl, rfl, rfl, by decide, rfl, rfl, fun u => rfl⟩) gX2_init_X1_init rfl ⟨rfl, rfl⟩ ⟨Nat.le_of_ble_eq_true rfl, Nat.le_of_ble_eq_true rfl⟩ ⟨Nat.le_of_ble_eq_true rfl, Nat.le_of_ble_eq_true rfl⟩ rfl (Nat.le_of_ble_eq_true rfl) hdS_X1_init (List.mem_of_getElem? (i := 6) rfl) (List.mem_of_getElem? (i := 10) rfl) (List.mem_of_getElem? (i := 11) rfl) rfl rfl dX2_init_37 (fun z hz => ?_)
  obtain ⟨h3, M3⟩ := z
  obtain ⟨e3, eM3⟩ := hz
  dsimp only at e3 eM3
  subst e3
  subst eM3
  refine g_putF C (pc := 40) tyX2 tyX2_ok nmX2 inX2_init_2 rfl 2 (by decide) rfl hin rfl (List.mem_of_getElem? (i := 9) rfl) dX2_init_40 rfl rfl 0 rfl (Nat.le_of_ble_eq_true rfl) (ws2 := ((a, .inr (2, [.ref (h1 0), .ref (h2 0), .ref (h3 0)])) :: (cellsW cA 20 h1 Mz ++ (cellsW cA 20 h2 Mz ++ cellsW cA 20 h3 Mz)))) rfl ?_
  refine g_widen 6 66 (by decide) (by decide) ?_
  exact r_in (u := ((fun k : Nat => bif Nat.beq k 0 then a else (bif Nat.blt k 3 then h1 (k - 1) else (bif Nat.blt k 5 then h2 (k - 3) else (h3 (k - 5))))), Mz)) C rfl dX2_init_43 ⟨rfl, rfl⟩
theorem inX0_init_0 : ∀ w ∈ u_ws RX0 TX0 18, w ∈ wsX0_init := by decide +kernel
theorem inX0_init_1 : ∀ w ∈ u_ws RX1 TX1 2, w ∈ wsX0_init := by decide +kernel
theorem inX0_init_2 : ∀ w ∈ u_ws RX2 TX2 3, w ∈ wsX0_init := by decide +kernel
noncomputable def xX0_init_l120 : Nat → St → Int32 → St
  | 0, M17, _ => (M17)
  | k + 1, M17, v16 => if 15 ≤ v16 then (nm (sa M17 0 (up (M17 0) 4 (xX1_at 15 (sh 1 M17) 11))) fun M19 => nm (sa M19 0 (up (M19 0) 5 (xX1_at 15 (sh 1 M19) 11))) fun M20 => M20) else (nm (xX1_add 15 (sh 1 M17) (xX4_numberIn tFirst v16)) fun z21 => nm (put 1 2 z21 M17) fun M22 => nm (v16 + 1 : Int32) fun x23 => xX0_init_l120 k M22 x23)
noncomputable def xX0_initT (M : St) : St := nm (sa M 0 (up (M 0) 3 500)) fun M1 => nm (sa M1 0 (up (M1 0) 4 0)) fun M2 => nm (sa M2 0 (up (M2 0) 5 0)) fun M3 => nm (sa M3 0 (up (M3 0) 6 0)) fun M4 => nm (sa M4 0 (up (M4 0) 7 0)) fun M5 => nm (sa M5 0 (up (M5 0) 8 0)) fun M6 => nm (sa M6 0 (up (M6 0) 9 0)) fun M7 => nm (sa M7 0 (up (M7 0) 10 0)) fun M8 => nm (sa M8 0 (up (M8 0) 11 0)) fun M9 => nm (sa M9 0 (up (M9 0) 12 0)) fun M10 => nm (sa M10 0 (up (M10 0) 13 0)) fun M11 => nm (sa M11 0 (up (M11 0) 14 0)) fun M12 => nm (sa M12 0 (up (M12 0) 15 0)) fun M13 => nm (sa M13 0 (up (M13 0) 16 (-1))) fun M14 => nm (sa M14 0 (up (M14 0) 17 0)) fun M15 => xX0_init_l120 (mu 0 15 + 1) M15 0
noncomputable def xX0_init : St := xX0_initT Mz
set_option maxHeartbeats 4000000 in
set_option maxRecDepth 100000 in
theorem kX0_init (l : Launch) (D : va_G) (cA : ClassId) (T : Nat × Nat × Nat) (a : Nat) : ∀ sz : Nat, Met l yX0_init wsX0_init { frames := 3, cells := 11, slots := 148, locals := 62 } (va_Pc [.ref a] (PreW D cA T [(a, .inr (0, [.null, .null, .null, .int 0, .int 0, .int 0, .int 0, .int 0, .int 0, .int 0, .int 0, .int 0, .int 0, .int 0, .int 0, .int 0, .int 0, .int 0]))] sz)) (va_Qv (fun u : (Nat → Nat) × St => u.1 0 = a ∧ u.2 = xX0_init ∧ Zbird u.2) (fun u => PostW D cA (va_A [(a, .inr (0, [.null, .null, .null, .int 0, .int 0, .int 0, .int 0, .int 0, .int 0, .int 0, .int 0, .int 0, .int 0, .int 0, .int 0, .int 0, .int 0, .int 0]))] sz) (birdW cA u.1 u.2)) (va_A [(a, .inr (0, [.null, .null, .null, .int 0, .int 0, .int 0, .int 0, .int 0, .int 0, .int 0, .int 0, .int 0, .int 0, .int 0, .int 0, .int 0, .int 0, .int 0]))] sz)) 11 148 (va_A [(a, .inr (0, [.null, .null, .null, .int 0, .int 0, .int 0, .int 0, .int 0, .int 0, .int 0, .int 0, .int 0, .int 0, .int 0, .int 0, .int 0, .int 0, .int 0]))] sz) := by
  refine m_in (cc := cX0_init) (maxL := 2) (own := RX0) 11 148 (by decide) rfl rfl (Nat.le_of_ble_eq_true rfl) (fun {p e s m args below meth c} A C hin => ?_)
  refine g_aload_n C (pc := 0) dX0_init_0 0 rfl ?_
  refine g_objInit C (pc := 1) (List.mem_of_getElem? (i := 1) rfl) (List.mem_of_getElem? (i := 2) rfl) (List.mem_of_getElem? (i := 3) rfl) dX0_init_1 (Nat.le_of_ble_eq_true rfl) (Nat.le_of_ble_eq_true rfl) ?_
  refine g_aload_n C (pc := 4) dX0_init_4 0 rfl ?_
  refine g_new C (pc := 5) (ci := 1) (fs := [.null, .int 0]) inX0_init_1 tyX1 tyX1_ok (List.mem_of_getElem? (i := 4) rfl) (List.mem_of_getElem? (i := 5) rfl) (List.mem_of_getElem? (i := 6) rfl) rfl (fun j hj => by rcases (show j = 0 ∨ j = 1 by omega) with rfl | rfl <;> rfl) ⟨Nat.le_of_ble_eq_true rfl, Nat.le_of_ble_eq_true rfl⟩ dX0_init_5 (fun q5 => ?_)
  refine g_dup C (pc := 8) dX0_init_8 rfl ?_
  refine g_bipush C (pc := 9) dX0_init_9 cB_15 ?_
  refine g_init C (pc := 11) (As := [.int 15]) (b := q5) (kX1_init l D cA T q5 15 (by decide) (by decide)) (show View (((a, .inr (0, [.null, .null, .null, .int 0, .int 0, .int 0, .int 0, .int 0, .int 0, .int 0, .int 0, .int 0, .int 0, .int 0, .int 0, .int 0, .int 0, .int 0])) :: []) ++ [(q5, .inr (1, [.null, .int 0]))]) [(q5, .inr (1, [.null, .int 0]))] (fun u : (Nat → Nat) × St => cellsW cA 15 u.1 u.2) (fun u => ((a, .inr (0, [.null, .null, .null, .int 0, .int 0, .int 0, .int 0, .int 0, .int 0, .int 0, .int 0, .int 0, .int 0, .int 0, .int 0, .int 0, .int 0, .int 0])) :: []) ++ (fun u : (Nat → Nat) × St => cellsW cA 15 u.1 u.2) u) from ⟨((a, .inr (0, [.null, .null, .null, .int 0, .int 0, .int 0, .int 0, .int 0, .int 0, .int 0, .int 0, .int 0, .int 0, .int 0, .int 0, .int 0, .int 0, .int 0])) :: []), [1], [0], [0, 1, 2], rfl, rfl, rfl, rfl, by decide, rfl, rfl, fun u => rfl⟩) gX0_init_X1_init rfl ⟨rfl, rfl⟩ ⟨Nat.le_of_ble_eq_true rfl, Nat.le_of_ble_eq_true rfl⟩ ⟨Nat.le_of_ble_eq_true rfl, Nat.le_of_ble_eq_true rfl⟩ rfl (Nat.le_of_ble_eq_true rfl) hdS_X1_init (List.mem_of_getElem? (i := 6) rfl) (List.mem_of_getElem? (i := 28) rfl) (List.mem_of_getElem? (i := 29) rfl) rfl rfl dX0_init_11 (fun z hz => ?_)
  obtain ⟨h1, M1⟩ := z
  obtain ⟨e1, eM1⟩ := hz
  dsimp only at e1 eM1
  subst e1
  subst eM1
  refine g_putF C (pc := 14) tyX0 tyX0_ok nmX0 inX0_init_0 rfl 0 (by decide) rfl hin rfl (List.mem_of_getElem? (i := 7) rfl) dX0_init_14 rfl rfl 0 rfl (Nat.le_of_ble_eq_true rfl) (ws2 := ((a, .inr (0, [.ref (h1 0), .null, .null, .int 0, .int 0, .int 0, .int 0, .int 0, .int 0, .int 0, .int 0, .int 0, .int 0, .int 0, .int 0, .int 0, .int 0, .int 0])) :: cellsW cA 15 h1 Mz)) rfl ?_
  refine g_aload_n C (pc := 17) dX0_init_17 0 rfl ?_
  refine g_new C (pc := 18) (ci := 2) (fs := [.null, .null, .null]) inX0_init_2 tyX2 tyX2_ok (List.mem_of_getElem? (i := 8) rfl) (List.mem_of_getElem? (i := 9) rfl) (List.mem_of_getElem? (i := 10) rfl) rfl (fun j hj => by rcases (show j = 0 ∨ j = 1 ∨ j = 2 by omega) with rfl | rfl | rfl <;> rfl) ⟨Nat.le_of_ble_eq_true rfl, Nat.le_of_ble_eq_true rfl⟩ dX0_init_18 (fun q18 => ?_)
  refine g_dup C (pc := 21) dX0_init_21 rfl ?_
  refine g_initN C (pc := 22) (As := []) (b := q18) (kX2_init l D cA T q18) (show View (((a, .inr (0, [.ref (h1 0), .null, .null, .int 0, .int 0, .int 0, .int 0, .int 0, .int 0, .int 0, .int 0, .int 0, .int 0, .int 0, .int 0, .int 0, .int 0, .int 0])) :: cellsW cA 15 h1 Mz) ++ [(q18, .inr (2, [.null, .null, .null]))]) [(q18, .inr (2, [.null, .null, .null]))] (fun u : (Nat → Nat) × St => hoursW cA u.1 u.2) (fun u => ((a, .inr (0, [.ref (h1 0), .null, .null, .int 0, .int 0, .int 0, .int 0, .int 0, .int 0, .int 0, .int 0, .int 0, .int 0, .int 0, .int 0, .int 0, .int 0, .int 0])) :: cellsW cA 15 h1 Mz) ++ (fun u : (Nat → Nat) × St => hoursW cA u.1 u.2) u) from ⟨((a, .inr (0, [.ref (h1 0), .null, .null, .int 0, .int 0, .int 0, .int 0, .int 0, .int 0, .int 0, .int 0, .int 0, .int 0, .int 0, .int 0, .int 0, .int 0, .int 0])) :: cellsW cA 15 h1 Mz), [3], [0, 1, 2], [0, 1, 2, 3, 4, 5, 6, 7, 8, 9], rfl, rfl, rfl, rfl, by decide, rfl, rfl, fun u => rfl⟩) gX0_init_X2_init_n22 rfl ⟨rfl, rfl⟩ ⟨Nat.le_of_ble_eq_true rfl, Nat.le_of_ble_eq_true rfl⟩ ⟨Nat.le_of_ble_eq_true rfl, Nat.le_of_ble_eq_true rfl⟩ rfl (Nat.le_of_ble_eq_true rfl) hdS_X2_init (List.mem_of_getElem? (i := 10) rfl) (C.2.2.2.2.2.2.2.2.2.2.2.2.2.2.1) (List.mem_of_getElem? (i := 39) rfl) rfl rfl dX0_init_22 (fun z hz => ?_)
  obtain ⟨h2, M2⟩ := z
  obtain ⟨e2, eM2⟩ := hz
  dsimp only at e2 eM2
  subst e2
  subst eM2
  refine g_putF C (pc := 25) tyX0 tyX0_ok nmX0 inX0_init_0 rfl 1 (by decide) rfl hin rfl (List.mem_of_getElem? (i := 11) rfl) dX0_init_25 rfl rfl 0 rfl (Nat.le_of_ble_eq_true rfl) (ws2 := ((a, .inr (0, [.ref (h1 0), .ref (h2 0), .null, .int 0, .int 0, .int 0, .int 0, .int 0, .int 0, .int 0, .int 0, .int 0, .int 0, .int 0, .int 0, .int 0, .int 0, .int 0])) :: (cellsW cA 15 h1 Mz ++ hoursW cA h2 Mz))) rfl ?_
  refine g_aload_n C (pc := 28) dX0_init_28 0 rfl ?_
  refine g_new C (pc := 29) (ci := 1) (fs := [.null, .int 0]) inX0_init_1 tyX1 tyX1_ok (List.mem_of_getElem? (i := 4) rfl) (List.mem_of_getElem? (i := 5) rfl) (List.mem_of_getElem? (i := 6) rfl) rfl (fun j hj => by rcases (show j = 0 ∨ j = 1 by omega) with rfl | rfl <;> rfl) ⟨Nat.le_of_ble_eq_true rfl, Nat.le_of_ble_eq_true rfl⟩ dX0_init_29 (fun q29 => ?_)
  refine g_dup C (pc := 32) dX0_init_32 rfl ?_
  refine g_bipush C (pc := 33) dX0_init_33 cB_60 ?_
  refine g_init C (pc := 35) (As := [.int 60]) (b := q29) (kX1_init l D cA T q29 60 (by decide) (by decide)) (show View (((a, .inr (0, [.ref (h1 0), .ref (h2 0), .null, .int 0, .int 0, .int 0, .int 0, .int 0, .int 0, .int 0, .int 0, .int 0, .int 0, .int 0, .int 0, .int 0, .int 0, .int 0])) :: (cellsW cA 15 h1 Mz ++ hoursW cA h2 Mz)) ++ [(q29, .inr (1, [.null, .int 0]))]) [(q29, .inr (1, [.null, .int 0]))] (fun u : (Nat → Nat) × St => cellsW cA 60 u.1 u.2) (fun u => ((a, .inr (0, [.ref (h1 0), .ref (h2 0), .null, .int 0, .int 0, .int 0, .int 0, .int 0, .int 0, .int 0, .int 0, .int 0, .int 0, .int 0, .int 0, .int 0, .int 0, .int 0])) :: (cellsW cA 15 h1 Mz ++ hoursW cA h2 Mz)) ++ (fun u : (Nat → Nat) × St => cellsW cA 60 u.1 u.2) u) from ⟨((a, .inr (0, [.ref (h1 0), .ref (h2 0), .null, .int 0, .int 0, .int 0, .int 0, .int 0, .int 0, .int 0, .int 0, .int 0, .int 0, .int 0, .int 0, .int 0, .int 0, .int 0])) :: (cellsW cA 15 h1 Mz ++ hoursW cA h2 Mz)), [10], [0, 1, 2, 3, 4, 5, 6, 7, 8, 9], [0, 1, 2, 3, 4, 5, 6, 7, 8, 9, 10, 11], rfl, rfl, rfl, rfl, by decide, rfl, rfl, fun u => rfl⟩) gX0_init_X1_init rfl ⟨rfl, rfl⟩ ⟨Nat.le_of_ble_eq_true rfl, Nat.le_of_ble_eq_true rfl⟩ ⟨Nat.le_of_ble_eq_true rfl, Nat.le_of_ble_eq_true rfl⟩ rfl (Nat.le_of_ble_eq_true rfl) hdS_X1_init (List.mem_of_getElem? (i := 6) rfl) (List.mem_of_getElem? (i := 28) rfl) (List.mem_of_getElem? (i := 29) rfl) rfl rfl dX0_init_35 (fun z hz => ?_)
  obtain ⟨h3, M3⟩ := z
  obtain ⟨e3, eM3⟩ := hz
  dsimp only at e3 eM3
  subst e3
  subst eM3
  refine g_putF C (pc := 38) tyX0 tyX0_ok nmX0 inX0_init_0 rfl 2 (by decide) rfl hin rfl (List.mem_of_getElem? (i := 12) rfl) dX0_init_38 rfl rfl 0 rfl (Nat.le_of_ble_eq_true rfl) (ws2 := ((a, .inr (0, [.ref (h1 0), .ref (h2 0), .ref (h3 0), .int 0, .int 0, .int 0, .int 0, .int 0, .int 0, .int 0, .int 0, .int 0, .int 0, .int 0, .int 0, .int 0, .int 0, .int 0])) :: (cellsW cA 15 h1 Mz ++ (hoursW cA h2 Mz ++ cellsW cA 60 h3 Mz)))) rfl ?_
  obtain ⟨h, M, ha, hM, hw⟩ : ∃ (h : Nat → Nat) (M : St), h 0 = a ∧ M = Mz ∧ ((a, .inr (0, [.ref (h1 0), .ref (h2 0), .ref (h3 0), .int 0, .int 0, .int 0, .int 0, .int 0, .int 0, .int 0, .int 0, .int 0, .int 0, .int 0, .int 0, .int 0, .int 0, .int 0])) :: (cellsW cA 15 h1 Mz ++ (hoursW cA h2 Mz ++ cellsW cA 60 h3 Mz))) = birdW cA h M := ⟨(fun k : Nat => bif Nat.beq k 0 then a else (bif Nat.blt k 3 then h1 (k - 1) else (bif Nat.blt k 10 then h2 (k - 3) else (h3 (k - 10))))), _, rfl, rfl, rfl⟩
  refine g_conv hw ?_
  clear hw
  subst ha
  have hz : Zbird M := by rw [hM]; exact ⟨⟨by decide, by decide, by decide⟩, ⟨by decide, by decide, by decide⟩, ⟨by decide, by decide, by decide⟩, ⟨by decide, by decide, by decide⟩, ⟨by decide, by decide, by decide⟩⟩
  refine g_widen 11 148 (by decide) (by decide) ?_
  refine g_prog (xX0_initT M) ?_
  unfold xX0_initT
  refine g_aload_n C (pc := 41) dX0_init_41 0 rfl ?_
  refine g_sipush C (pc := 42) dX0_init_42 cS_500 ?_
  refine g_put C (pc := 45) tyX0 tyX0_ok nmX0 inX0_init_0 rfl 3 (by decide) rfl (List.mem_of_getElem? (i := 13) rfl) dX0_init_45 rfl rfl 0 rfl (Nat.le_of_ble_eq_true rfl) (birdW cA h) (sa M 0 (up (M 0) 3 500)) rfl (fun M1 eM1 => ?_)
  have hz1 : (Zbird M1) := by rw [eM1]; exact hz
  refine g_aload_n C (pc := 48) dX0_init_48 0 rfl ?_
  refine g_iconst C (pc := 49) dX0_init_49 cI_0 ?_
  refine g_put C (pc := 50) tyX0 tyX0_ok nmX0 inX0_init_0 rfl 4 (by decide) rfl (List.mem_of_getElem? (i := 14) rfl) dX0_init_50 rfl rfl 0 rfl (Nat.le_of_ble_eq_true rfl) (birdW cA h) (sa M1 0 (up (M1 0) 4 0)) rfl (fun M2 eM2 => ?_)
  have hz2 : (Zbird M2) := by rw [eM2]; exact hz1
  refine g_aload_n C (pc := 53) dX0_init_53 0 rfl ?_
  refine g_iconst C (pc := 54) dX0_init_54 cI_0 ?_
  refine g_put C (pc := 55) tyX0 tyX0_ok nmX0 inX0_init_0 rfl 5 (by decide) rfl (List.mem_of_getElem? (i := 15) rfl) dX0_init_55 rfl rfl 0 rfl (Nat.le_of_ble_eq_true rfl) (birdW cA h) (sa M2 0 (up (M2 0) 5 0)) rfl (fun M3 eM3 => ?_)
  have hz3 : (Zbird M3) := by rw [eM3]; exact hz2
  refine g_aload_n C (pc := 58) dX0_init_58 0 rfl ?_
  refine g_iconst C (pc := 59) dX0_init_59 cI_0 ?_
  refine g_put C (pc := 60) tyX0 tyX0_ok nmX0 inX0_init_0 rfl 6 (by decide) rfl (List.mem_of_getElem? (i := 16) rfl) dX0_init_60 rfl rfl 0 rfl (Nat.le_of_ble_eq_true rfl) (birdW cA h) (sa M3 0 (up (M3 0) 6 0)) rfl (fun M4 eM4 => ?_)
  have hz4 : (Zbird M4) := by rw [eM4]; exact hz3
  refine g_aload_n C (pc := 63) dX0_init_63 0 rfl ?_
  refine g_iconst C (pc := 64) dX0_init_64 cI_0 ?_
  refine g_put C (pc := 65) tyX0 tyX0_ok nmX0 inX0_init_0 rfl 7 (by decide) rfl (List.mem_of_getElem? (i := 17) rfl) dX0_init_65 rfl rfl 0 rfl (Nat.le_of_ble_eq_true rfl) (birdW cA h) (sa M4 0 (up (M4 0) 7 0)) rfl (fun M5 eM5 => ?_)
  have hz5 : (Zbird M5) := by rw [eM5]; exact hz4
  refine g_aload_n C (pc := 68) dX0_init_68 0 rfl ?_
  refine g_iconst C (pc := 69) dX0_init_69 cI_0 ?_
  refine g_put C (pc := 70) tyX0 tyX0_ok nmX0 inX0_init_0 rfl 8 (by decide) rfl (List.mem_of_getElem? (i := 18) rfl) dX0_init_70 rfl rfl 0 rfl (Nat.le_of_ble_eq_true rfl) (birdW cA h) (sa M5 0 (up (M5 0) 8 0)) rfl (fun M6 eM6 => ?_)
  have hz6 : (Zbird M6) := by rw [eM6]; exact hz5
  refine g_aload_n C (pc := 73) dX0_init_73 0 rfl ?_
  refine g_iconst C (pc := 74) dX0_init_74 cI_0 ?_
  refine g_put C (pc := 75) tyX0 tyX0_ok nmX0 inX0_init_0 rfl 9 (by decide) rfl (List.mem_of_getElem? (i := 19) rfl) dX0_init_75 rfl rfl 0 rfl (Nat.le_of_ble_eq_true rfl) (birdW cA h) (sa M6 0 (up (M6 0) 9 0)) rfl (fun M7 eM7 => ?_)
  have hz7 : (Zbird M7) := by rw [eM7]; exact hz6
  refine g_aload_n C (pc := 78) dX0_init_78 0 rfl ?_
  refine g_iconst C (pc := 79) dX0_init_79 cI_0 ?_
  refine g_put C (pc := 80) tyX0 tyX0_ok nmX0 inX0_init_0 rfl 10 (by decide) rfl (List.mem_of_getElem? (i := 20) rfl) dX0_init_80 rfl rfl 0 rfl (Nat.le_of_ble_eq_true rfl) (birdW cA h) (sa M7 0 (up (M7 0) 10 0)) rfl (fun M8 eM8 => ?_)
  have hz8 : (Zbird M8) := by rw [eM8]; exact hz7
  refine g_aload_n C (pc := 83) dX0_init_83 0 rfl ?_
  refine g_iconst C (pc := 84) dX0_init_84 cI_0 ?_
  refine g_put C (pc := 85) tyX0 tyX0_ok nmX0 inX0_init_0 rfl 11 (by decide) rfl (List.mem_of_getElem? (i := 21) rfl) dX0_init_85 rfl rfl 0 rfl (Nat.le_of_ble_eq_true rfl) (birdW cA h) (sa M8 0 (up (M8 0) 11 0)) rfl (fun M9 eM9 => ?_)
  have hz9 : (Zbird M9) := by rw [eM9]; exact hz8
  refine g_aload_n C (pc := 88) dX0_init_88 0 rfl ?_
  refine g_iconst C (pc := 89) dX0_init_89 cI_0 ?_
  refine g_put C (pc := 90) tyX0 tyX0_ok nmX0 inX0_init_0 rfl 12 (by decide) rfl (List.mem_of_getElem? (i := 22) rfl) dX0_init_90 rfl rfl 0 rfl (Nat.le_of_ble_eq_true rfl) (birdW cA h) (sa M9 0 (up (M9 0) 12 0)) rfl (fun M10 eM10 => ?_)
  have hz10 : (Zbird M10) := by rw [eM10]; exact hz9
  refine g_aload_n C (pc := 93) dX0_init_93 0 rfl ?_
  refine g_iconst C (pc := 94) dX0_init_94 cI_0 ?_
  refine g_put C (pc := 95) tyX0 tyX0_ok nmX0 inX0_init_0 rfl 13 (by decide) rfl (List.mem_of_getElem? (i := 23) rfl) dX0_init_95 rfl rfl 0 rfl (Nat.le_of_ble_eq_true rfl) (birdW cA h) (sa M10 0 (up (M10 0) 13 0)) rfl (fun M11 eM11 => ?_)
  have hz11 : (Zbird M11) := by rw [eM11]; exact hz10
  refine g_aload_n C (pc := 98) dX0_init_98 0 rfl ?_
  refine g_iconst C (pc := 99) dX0_init_99 cI_0 ?_
  refine g_put C (pc := 100) tyX0 tyX0_ok nmX0 inX0_init_0 rfl 14 (by decide) rfl (List.mem_of_getElem? (i := 24) rfl) dX0_init_100 rfl rfl 0 rfl (Nat.le_of_ble_eq_true rfl) (birdW cA h) (sa M11 0 (up (M11 0) 14 0)) rfl (fun M12 eM12 => ?_)
  have hz12 : (Zbird M12) := by rw [eM12]; exact hz11
  refine g_aload_n C (pc := 103) dX0_init_103 0 rfl ?_
  refine g_iconst C (pc := 104) dX0_init_104 cI_0 ?_
  refine g_put C (pc := 105) tyX0 tyX0_ok nmX0 inX0_init_0 rfl 15 (by decide) rfl (List.mem_of_getElem? (i := 25) rfl) dX0_init_105 rfl rfl 0 rfl (Nat.le_of_ble_eq_true rfl) (birdW cA h) (sa M12 0 (up (M12 0) 15 0)) rfl (fun M13 eM13 => ?_)
  have hz13 : (Zbird M13) := by rw [eM13]; exact hz12
  refine g_aload_n C (pc := 108) dX0_init_108 0 rfl ?_
  refine g_iconst C (pc := 109) dX0_init_109 cI_m1 ?_
  refine g_put C (pc := 110) tyX0 tyX0_ok nmX0 inX0_init_0 rfl 16 (by decide) rfl (List.mem_of_getElem? (i := 26) rfl) dX0_init_110 rfl rfl 0 rfl (Nat.le_of_ble_eq_true rfl) (birdW cA h) (sa M13 0 (up (M13 0) 16 (-1))) rfl (fun M14 eM14 => ?_)
  have hz14 : (Zbird M14) := by rw [eM14]; exact hz13
  refine g_aload_n C (pc := 113) dX0_init_113 0 rfl ?_
  refine g_iconst C (pc := 114) dX0_init_114 cI_0 ?_
  refine g_put C (pc := 115) tyX0 tyX0_ok nmX0 inX0_init_0 rfl 17 (by decide) rfl (List.mem_of_getElem? (i := 27) rfl) dX0_init_115 rfl rfl 0 rfl (Nat.le_of_ble_eq_true rfl) (birdW cA h) (sa M14 0 (up (M14 0) 17 0)) rfl (fun M15 eM15 => ?_)
  have hz15 : (Zbird M15) := by rw [eM15]; exact hz14
  refine g_iconst C (pc := 118) dX0_init_118 cI_0 ?_
  refine g_istore_n C (pc := 119) [(1, .int 0), (0, .ref (h 0))] dX0_init_119 (by decide) rfl ?_
  have L120 : ∀ (k : Nat) (M17 : St) (v16 : Int32), (Zbird M17) → mu v16 15 < k → G p l e { frames := 3, cells := 11, slots := 148, locals := 62 } s m args below meth c 11 148 D A (Qin below D cA A args s 11 148 (fun u : (Nat → Nat) × St => birdW cA u.1 u.2) (fun u : (Nat → Nat) × St => u.1 0 = h 0 ∧ u.2 = xX0_init ∧ Zbird u.2)) 2 (xX0_initT M) (xX0_init_l120 k M17 v16) (birdW cA h M17) 120 [(0, .ref (h 0)), (1, .int v16)] [] := by
    intro k
    induction k with
    | zero => intro M17 v16 hz17 hmu; exact absurd hmu (Nat.not_lt_zero _)
    | succ k ih =>
      intro M17 v16 hz17 hmu
      rw [xX0_init_l120]
      refine g_iload_n C (pc := 120) dX0_init_120 1 rfl ?_
      refine g_bipush C (pc := 121) dX0_init_121 cB_15 ?_
      refine g_icmp_ge C (pc := 123) 146 dX0_init_123 (by decide) (fun c18 => ?_) (fun c18 => ?_)
      · refine g_aload_n C (pc := 146) dX0_init_146 0 rfl ?_
        refine g_aload_n C (pc := 147) dX0_init_147 0 rfl ?_
        refine g_get C (pc := 148) inX0_init_0 rfl 0 (by decide) (List.mem_of_getElem? (i := 7) rfl) dX0_init_148 0 rfl (.ref (h 1)) rfl ?_
        refine g_bipush C (pc := 151) dX0_init_151 cB_11 ?_
        refine g_Vpi C (pc := 153) (As := [.int 11]) (kX1_at l D cA T 15 (sh 1 h) (sh 1 M17) 11 hz17.1) (v_bird_cells_1 cA h M17) gX0_init_X1_at rfl ⟨rfl, rfl⟩ ⟨Nat.le_of_ble_eq_true rfl, Nat.le_of_ble_eq_true rfl⟩ ⟨Nat.zero_le _, Nat.zero_le _⟩ rfl (Nat.le_of_ble_eq_true rfl) hdV_X1_at 0 rfl rfl rfl dX0_init_153 ?_
        refine g_put C (pc := 156) tyX0 tyX0_ok nmX0 inX0_init_0 rfl 4 (by decide) rfl (List.mem_of_getElem? (i := 14) rfl) dX0_init_156 rfl rfl 0 rfl (Nat.le_of_ble_eq_true rfl) (birdW cA h) (sa M17 0 (up (M17 0) 4 (xX1_at 15 (sh 1 M17) 11))) rfl (fun M19 eM19 => ?_)
        have hz19 : (Zbird M19) := by rw [eM19]; exact hz17
        refine g_aload_n C (pc := 159) dX0_init_159 0 rfl ?_
        refine g_aload_n C (pc := 160) dX0_init_160 0 rfl ?_
        refine g_get C (pc := 161) inX0_init_0 rfl 0 (by decide) (List.mem_of_getElem? (i := 7) rfl) dX0_init_161 0 rfl (.ref (h 1)) rfl ?_
        refine g_bipush C (pc := 164) dX0_init_164 cB_11 ?_
        refine g_Vpi C (pc := 166) (As := [.int 11]) (kX1_at l D cA T 15 (sh 1 h) (sh 1 M19) 11 hz19.1) (v_bird_cells_1 cA h M19) gX0_init_X1_at rfl ⟨rfl, rfl⟩ ⟨Nat.le_of_ble_eq_true rfl, Nat.le_of_ble_eq_true rfl⟩ ⟨Nat.zero_le _, Nat.zero_le _⟩ rfl (Nat.le_of_ble_eq_true rfl) hdV_X1_at 0 rfl rfl rfl dX0_init_166 ?_
        refine g_put C (pc := 169) tyX0 tyX0_ok nmX0 inX0_init_0 rfl 5 (by decide) rfl (List.mem_of_getElem? (i := 15) rfl) dX0_init_169 rfl rfl 0 rfl (Nat.le_of_ble_eq_true rfl) (birdW cA h) (sa M19 0 (up (M19 0) 5 (xX1_at 15 (sh 1 M19) 11))) rfl (fun M20 eM20 => ?_)
        have hz20 : (Zbird M20) := by rw [eM20]; exact hz19
        exact r_inT (v := (h, M20)) C rfl dX0_init_172 (fun q => ⟨rfl, (q.trans (by rw [hM]; rfl)), hz20⟩)
      · refine g_aload_n C (pc := 126) dX0_init_126 0 rfl ?_
        refine g_get C (pc := 127) inX0_init_0 rfl 0 (by decide) (List.mem_of_getElem? (i := 7) rfl) dX0_init_127 0 rfl (.ref (h 1)) rfl ?_
        refine g_getsN C (pc := 130) (n := "FIRST") C.2.2.2.2.2.2.2.2.2.1.1 C.2.2.2.2.2.2.2.2.2.2.2.2.1 dX0_init_130 ?_
        refine g_iload_n C (pc := 133) dX0_init_133 1 rfl ?_
        refine g_SNpi C (pc := 134) (As := [.ref (T.1), .int v16]) (kX4_numberIn_FIRST l D cA T v16) (v_none (birdW cA h M17) 12 rfl rfl) gX0_init_X4_numberIn_n80 (C.2.2.2.2.2.2.2.2.2.2.2.2.2.2.2.1) (List.mem_of_getElem? (i := 48) rfl) (List.mem_of_getElem? (i := 47) rfl) rfl ⟨rfl, rfl⟩ ⟨Nat.le_of_ble_eq_true rfl, Nat.le_of_ble_eq_true rfl⟩ ⟨Nat.zero_le _, Nat.zero_le _⟩ rfl (Nat.le_of_ble_eq_true rfl) hdS_X4_numberIn rfl dX0_init_134 ?_
        refine g_Vev C (pc := 137) (As := [.int (xX4_numberIn tFirst v16)]) (kX1_add l D cA T 15 (sh 1 h) (sh 1 M17) (xX4_numberIn tFirst v16) hz17.1) (v_bird_cells_1 cA h M17) gX0_init_X1_add rfl ⟨rfl, rfl⟩ ⟨Nat.le_of_ble_eq_true rfl, Nat.le_of_ble_eq_true rfl⟩ ⟨Nat.zero_le _, Nat.zero_le _⟩ rfl (Nat.le_of_ble_eq_true rfl) hdV_X1_add 0 rfl rfl rfl dX0_init_137 (fun z21 ez21 hz_z21 => ?_)
        refine g_nmW (birdW cA h) (fun M22 eM22 => ?_)
        have hz22 : (Zbird M22) := by rw [eM22]; exact ⟨hz_z21, hz17.2.1, hz17.2.2.1, hz17.2.2.2.1, hz17.2.2.2.2⟩
        refine g_iincN C (pc := 140) 1 (fun y => [(1, .int y), (0, .ref (h 0))]) dX0_init_140 1 rfl cI_1 (by decide) (fun _ => rfl) (fun x23 ex23 => ?_)
        refine g_goto C (pc := 143) 120 dX0_init_143 (by decide) ?_
        refine g_sub [1, 0] rfl ?_
        exact ih M22 x23 hz22 (by rw [ex23]; exact lp_dec c18 hmu)
  refine g_sub [1, 0] rfl ?_
  exact L120 _ M15 0 hz15 (Nat.lt_succ_self _)
theorem inX3_init_1 : ∀ w ∈ u_ws RX1 TX1 2, w ∈ wsX3_init := by decide +kernel
theorem inX3_init_3 : ∀ w ∈ u_ws RX3 TX3 6, w ∈ wsX3_init := by decide +kernel
noncomputable def xX3_initT (M : St) : St := nm (sa M 0 (up (M 0) 1 0)) fun M1 => nm (sa M1 0 (up (M1 0) 2 0)) fun M2 => nm (sa M2 0 (up (M2 0) 3 0)) fun M3 => nm (sa M3 0 (up (M3 0) 4 0)) fun M4 => nm (sa M4 0 (up (M4 0) 5 0)) fun M5 => M5
noncomputable def xX3_init : St := xX3_initT Mz
set_option maxHeartbeats 4000000 in
set_option maxRecDepth 100000 in
theorem kX3_init (l : Launch) (D : va_G) (cA : ClassId) (T : Nat × Nat × Nat) (a : Nat) : ∀ sz : Nat, Met l yX3_init wsX3_init { frames := 2, cells := 2, slots := 66, locals := 42 } (va_Pc [.ref a] (PreW D cA T [(a, .inr (3, [.null, .int 0, .int 0, .int 0, .int 0, .int 0]))] sz)) (va_Qv (fun u : (Nat → Nat) × St => u.1 0 = a ∧ u.2 = xX3_init ∧ Ztape u.2) (fun u => PostW D cA (va_A [(a, .inr (3, [.null, .int 0, .int 0, .int 0, .int 0, .int 0]))] sz) (tapeW cA u.1 u.2)) (va_A [(a, .inr (3, [.null, .int 0, .int 0, .int 0, .int 0, .int 0]))] sz)) 2 66 (va_A [(a, .inr (3, [.null, .int 0, .int 0, .int 0, .int 0, .int 0]))] sz) := by
  refine m_in (cc := cX3_init) (maxL := 1) (own := RX3) 2 66 (by decide) rfl rfl (Nat.le_of_ble_eq_true rfl) (fun {p e s m args below meth c} A C hin => ?_)
  refine g_aload_n C (pc := 0) dX3_init_0 0 rfl ?_
  refine g_objInit C (pc := 1) (List.mem_of_getElem? (i := 1) rfl) (List.mem_of_getElem? (i := 2) rfl) (List.mem_of_getElem? (i := 3) rfl) dX3_init_1 (Nat.le_of_ble_eq_true rfl) (Nat.le_of_ble_eq_true rfl) ?_
  refine g_aload_n C (pc := 4) dX3_init_4 0 rfl ?_
  refine g_new C (pc := 5) (ci := 1) (fs := [.null, .int 0]) inX3_init_1 tyX1 tyX1_ok (List.mem_of_getElem? (i := 4) rfl) (List.mem_of_getElem? (i := 5) rfl) (List.mem_of_getElem? (i := 6) rfl) rfl (fun j hj => by rcases (show j = 0 ∨ j = 1 by omega) with rfl | rfl <;> rfl) ⟨Nat.le_of_ble_eq_true rfl, Nat.le_of_ble_eq_true rfl⟩ dX3_init_5 (fun q5 => ?_)
  refine g_dup C (pc := 8) dX3_init_8 rfl ?_
  refine g_bipush C (pc := 9) dX3_init_9 cB_64 ?_
  refine g_init C (pc := 11) (As := [.int 64]) (b := q5) (kX1_init l D cA T q5 64 (by decide) (by decide)) (show View (((a, .inr (3, [.null, .int 0, .int 0, .int 0, .int 0, .int 0])) :: []) ++ [(q5, .inr (1, [.null, .int 0]))]) [(q5, .inr (1, [.null, .int 0]))] (fun u : (Nat → Nat) × St => cellsW cA 64 u.1 u.2) (fun u => ((a, .inr (3, [.null, .int 0, .int 0, .int 0, .int 0, .int 0])) :: []) ++ (fun u : (Nat → Nat) × St => cellsW cA 64 u.1 u.2) u) from ⟨((a, .inr (3, [.null, .int 0, .int 0, .int 0, .int 0, .int 0])) :: []), [1], [0], [0, 1, 2], rfl, rfl, rfl, rfl, by decide, rfl, rfl, fun u => rfl⟩) gX3_init_X1_init rfl ⟨rfl, rfl⟩ ⟨Nat.le_of_ble_eq_true rfl, Nat.le_of_ble_eq_true rfl⟩ ⟨Nat.le_of_ble_eq_true rfl, Nat.le_of_ble_eq_true rfl⟩ rfl (Nat.le_of_ble_eq_true rfl) hdS_X1_init (List.mem_of_getElem? (i := 6) rfl) (List.mem_of_getElem? (i := 13) rfl) (List.mem_of_getElem? (i := 14) rfl) rfl rfl dX3_init_11 (fun z hz => ?_)
  obtain ⟨h1, M1⟩ := z
  obtain ⟨e1, eM1⟩ := hz
  dsimp only at e1 eM1
  subst e1
  subst eM1
  refine g_putF C (pc := 14) tyX3 tyX3_ok nmX3 inX3_init_3 rfl 0 (by decide) rfl hin rfl (List.mem_of_getElem? (i := 7) rfl) dX3_init_14 rfl rfl 0 rfl (Nat.le_of_ble_eq_true rfl) (ws2 := ((a, .inr (3, [.ref (h1 0), .int 0, .int 0, .int 0, .int 0, .int 0])) :: cellsW cA 64 h1 Mz)) rfl ?_
  obtain ⟨h, M, ha, hM, hw⟩ : ∃ (h : Nat → Nat) (M : St), h 0 = a ∧ M = Mz ∧ ((a, .inr (3, [.ref (h1 0), .int 0, .int 0, .int 0, .int 0, .int 0])) :: cellsW cA 64 h1 Mz) = tapeW cA h M := ⟨(fun k : Nat => bif Nat.beq k 0 then a else (h1 (k - 1))), _, rfl, rfl, rfl⟩
  refine g_conv hw ?_
  clear hw
  subst ha
  have hz : Ztape M := by rw [hM]; exact ⟨by decide, by decide, by decide⟩
  refine g_widen 2 66 (by decide) (by decide) ?_
  refine g_prog (xX3_initT M) ?_
  unfold xX3_initT
  refine g_aload_n C (pc := 17) dX3_init_17 0 rfl ?_
  refine g_iconst C (pc := 18) dX3_init_18 cI_0 ?_
  refine g_put C (pc := 19) tyX3 tyX3_ok nmX3 inX3_init_3 rfl 1 (by decide) rfl (List.mem_of_getElem? (i := 8) rfl) dX3_init_19 rfl rfl 0 rfl (Nat.le_of_ble_eq_true rfl) (tapeW cA h) (sa M 0 (up (M 0) 1 0)) rfl (fun M1 eM1 => ?_)
  have hz1 : (Ztape M1) := by rw [eM1]; exact hz
  refine g_aload_n C (pc := 22) dX3_init_22 0 rfl ?_
  refine g_iconst C (pc := 23) dX3_init_23 cI_0 ?_
  refine g_put C (pc := 24) tyX3 tyX3_ok nmX3 inX3_init_3 rfl 2 (by decide) rfl (List.mem_of_getElem? (i := 9) rfl) dX3_init_24 rfl rfl 0 rfl (Nat.le_of_ble_eq_true rfl) (tapeW cA h) (sa M1 0 (up (M1 0) 2 0)) rfl (fun M2 eM2 => ?_)
  have hz2 : (Ztape M2) := by rw [eM2]; exact hz1
  refine g_aload_n C (pc := 27) dX3_init_27 0 rfl ?_
  refine g_iconst C (pc := 28) dX3_init_28 cI_0 ?_
  refine g_put C (pc := 29) tyX3 tyX3_ok nmX3 inX3_init_3 rfl 3 (by decide) rfl (List.mem_of_getElem? (i := 10) rfl) dX3_init_29 rfl rfl 0 rfl (Nat.le_of_ble_eq_true rfl) (tapeW cA h) (sa M2 0 (up (M2 0) 3 0)) rfl (fun M3 eM3 => ?_)
  have hz3 : (Ztape M3) := by rw [eM3]; exact hz2
  refine g_aload_n C (pc := 32) dX3_init_32 0 rfl ?_
  refine g_iconst C (pc := 33) dX3_init_33 cI_0 ?_
  refine g_put C (pc := 34) tyX3 tyX3_ok nmX3 inX3_init_3 rfl 4 (by decide) rfl (List.mem_of_getElem? (i := 11) rfl) dX3_init_34 rfl rfl 0 rfl (Nat.le_of_ble_eq_true rfl) (tapeW cA h) (sa M3 0 (up (M3 0) 4 0)) rfl (fun M4 eM4 => ?_)
  have hz4 : (Ztape M4) := by rw [eM4]; exact hz3
  refine g_aload_n C (pc := 37) dX3_init_37 0 rfl ?_
  refine g_iconst C (pc := 38) dX3_init_38 cI_0 ?_
  refine g_put C (pc := 39) tyX3 tyX3_ok nmX3 inX3_init_3 rfl 5 (by decide) rfl (List.mem_of_getElem? (i := 12) rfl) dX3_init_39 rfl rfl 0 rfl (Nat.le_of_ble_eq_true rfl) (tapeW cA h) (sa M4 0 (up (M4 0) 5 0)) rfl (fun M5 eM5 => ?_)
  have hz5 : (Ztape M5) := by rw [eM5]; exact hz4
  exact r_inT (v := (h, M5)) C rfl dX3_init_42 (fun q => ⟨rfl, (q.trans (by rw [hM]; rfl)), hz5⟩)
theorem inX4_init_0 : ∀ w ∈ u_ws RX0 TX0 18, w ∈ wsX4_init := by decide +kernel
theorem inX4_init_1 : ∀ w ∈ u_ws RX1 TX1 2, w ∈ wsX4_init := by decide +kernel
theorem inX4_init_3 : ∀ w ∈ u_ws RX3 TX3 6, w ∈ wsX4_init := by decide +kernel
theorem inX4_init_4 : ∀ w ∈ u_ws RX4 TX4 8, w ∈ wsX4_init := by decide +kernel
noncomputable def xX4_initT (M : St) : St := nm (sa M 0 (up (M 0) 7 0)) fun M1 => nm (xX1_fillUp 7 (sh 54 M1)) fun z2 => nm (put 54 2 z2 M1) fun M3 => M3
noncomputable def xX4_init : St := xX4_initT (put 37 12 xX0_init (put 25 12 xX0_init (put 13 12 xX0_init (put 1 12 xX0_init Mz))))
set_option maxHeartbeats 4000000 in
set_option maxRecDepth 100000 in
theorem kX4_init (l : Launch) (D : va_G) (cA : ClassId) (T : Nat × Nat × Nat) (a : Nat) : ∀ sz : Nat, Met l yX4_init wsX4_init { frames := 4, cells := 55, slots := 757, locals := 83 } (va_Pc [.ref a] (PreW D cA T [(a, .inr (4, [.null, .null, .null, .null, .null, .null, .null, .int 0]))] sz)) (va_Qv (fun u : (Nat → Nat) × St => u.1 0 = a ∧ u.2 = xX4_init ∧ Zmain u.2) (fun u => PostW D cA (va_A [(a, .inr (4, [.null, .null, .null, .null, .null, .null, .null, .int 0]))] sz) (mainW cA u.1 u.2)) (va_A [(a, .inr (4, [.null, .null, .null, .null, .null, .null, .null, .int 0]))] sz)) 55 757 (va_A [(a, .inr (4, [.null, .null, .null, .null, .null, .null, .null, .int 0]))] sz) := by
  refine m_in (cc := cX4_init) (maxL := 1) (own := RX4) 55 757 (by decide) rfl rfl (Nat.le_of_ble_eq_true rfl) (fun {p e s m args below meth c} A C hin => ?_)
  refine g_aload_n C (pc := 0) dX4_init_0 0 rfl ?_
  refine g_objInit C (pc := 1) (List.mem_of_getElem? (i := 1) rfl) (List.mem_of_getElem? (i := 2) rfl) (List.mem_of_getElem? (i := 3) rfl) dX4_init_1 (Nat.le_of_ble_eq_true rfl) (Nat.le_of_ble_eq_true rfl) ?_
  refine g_aload_n C (pc := 4) dX4_init_4 0 rfl ?_
  refine g_new C (pc := 5) (ci := 0) (fs := [.null, .null, .null, .int 0, .int 0, .int 0, .int 0, .int 0, .int 0, .int 0, .int 0, .int 0, .int 0, .int 0, .int 0, .int 0, .int 0, .int 0]) inX4_init_0 tyX0 tyX0_ok (List.mem_of_getElem? (i := 4) rfl) (List.mem_of_getElem? (i := 5) rfl) (List.mem_of_getElem? (i := 6) rfl) rfl (fun j hj => by rcases (show j = 0 ∨ j = 1 ∨ j = 2 ∨ j = 3 ∨ j = 4 ∨ j = 5 ∨ j = 6 ∨ j = 7 ∨ j = 8 ∨ j = 9 ∨ j = 10 ∨ j = 11 ∨ j = 12 ∨ j = 13 ∨ j = 14 ∨ j = 15 ∨ j = 16 ∨ j = 17 by omega) with rfl | rfl | rfl | rfl | rfl | rfl | rfl | rfl | rfl | rfl | rfl | rfl | rfl | rfl | rfl | rfl | rfl | rfl <;> rfl) ⟨Nat.le_of_ble_eq_true rfl, Nat.le_of_ble_eq_true rfl⟩ dX4_init_5 (fun q5 => ?_)
  refine g_dup C (pc := 8) dX4_init_8 rfl ?_
  refine g_init C (pc := 9) (As := []) (b := q5) (kX0_init l D cA T q5) (show View (((a, .inr (4, [.null, .null, .null, .null, .null, .null, .null, .int 0])) :: []) ++ [(q5, .inr (0, [.null, .null, .null, .int 0, .int 0, .int 0, .int 0, .int 0, .int 0, .int 0, .int 0, .int 0, .int 0, .int 0, .int 0, .int 0, .int 0, .int 0]))]) [(q5, .inr (0, [.null, .null, .null, .int 0, .int 0, .int 0, .int 0, .int 0, .int 0, .int 0, .int 0, .int 0, .int 0, .int 0, .int 0, .int 0, .int 0, .int 0]))] (fun u : (Nat → Nat) × St => birdW cA u.1 u.2) (fun u => ((a, .inr (4, [.null, .null, .null, .null, .null, .null, .null, .int 0])) :: []) ++ (fun u : (Nat → Nat) × St => birdW cA u.1 u.2) u) from ⟨((a, .inr (4, [.null, .null, .null, .null, .null, .null, .null, .int 0])) :: []), [1], [0], [0, 1, 2, 3, 4, 5, 6, 7, 8, 9, 10, 11, 12], rfl, rfl, rfl, rfl, by decide, rfl, rfl, fun u => rfl⟩) gX4_init_X0_init rfl ⟨rfl, rfl⟩ ⟨Nat.le_of_ble_eq_true rfl, Nat.le_of_ble_eq_true rfl⟩ ⟨Nat.le_of_ble_eq_true rfl, Nat.le_of_ble_eq_true rfl⟩ rfl (Nat.le_of_ble_eq_true rfl) hdS_X0_init (List.mem_of_getElem? (i := 6) rfl) (List.mem_of_getElem? (i := 21) rfl) (List.mem_of_getElem? (i := 22) rfl) rfl rfl dX4_init_9 (fun z hz => ?_)
  obtain ⟨h1, M1⟩ := z
  obtain ⟨e1, eM1, hz1⟩ := hz
  dsimp only at e1 eM1
  subst e1
  refine g_putF C (pc := 12) tyX4 tyX4_ok nmX4 inX4_init_4 rfl 0 (by decide) rfl hin rfl (List.mem_of_getElem? (i := 7) rfl) dX4_init_12 rfl rfl 0 rfl (Nat.le_of_ble_eq_true rfl) (ws2 := ((a, .inr (4, [.ref (h1 0), .null, .null, .null, .null, .null, .null, .int 0])) :: birdW cA h1 M1)) rfl ?_
  refine g_aload_n C (pc := 15) dX4_init_15 0 rfl ?_
  refine g_new C (pc := 16) (ci := 0) (fs := [.null, .null, .null, .int 0, .int 0, .int 0, .int 0, .int 0, .int 0, .int 0, .int 0, .int 0, .int 0, .int 0, .int 0, .int 0, .int 0, .int 0]) inX4_init_0 tyX0 tyX0_ok (List.mem_of_getElem? (i := 4) rfl) (List.mem_of_getElem? (i := 5) rfl) (List.mem_of_getElem? (i := 6) rfl) rfl (fun j hj => by rcases (show j = 0 ∨ j = 1 ∨ j = 2 ∨ j = 3 ∨ j = 4 ∨ j = 5 ∨ j = 6 ∨ j = 7 ∨ j = 8 ∨ j = 9 ∨ j = 10 ∨ j = 11 ∨ j = 12 ∨ j = 13 ∨ j = 14 ∨ j = 15 ∨ j = 16 ∨ j = 17 by omega) with rfl | rfl | rfl | rfl | rfl | rfl | rfl | rfl | rfl | rfl | rfl | rfl | rfl | rfl | rfl | rfl | rfl | rfl <;> rfl) ⟨Nat.le_of_ble_eq_true rfl, Nat.le_of_ble_eq_true rfl⟩ dX4_init_16 (fun q16 => ?_)
  refine g_dup C (pc := 19) dX4_init_19 rfl ?_
  refine g_init C (pc := 20) (As := []) (b := q16) (kX0_init l D cA T q16) (show View (((a, .inr (4, [.ref (h1 0), .null, .null, .null, .null, .null, .null, .int 0])) :: birdW cA h1 M1) ++ [(q16, .inr (0, [.null, .null, .null, .int 0, .int 0, .int 0, .int 0, .int 0, .int 0, .int 0, .int 0, .int 0, .int 0, .int 0, .int 0, .int 0, .int 0, .int 0]))]) [(q16, .inr (0, [.null, .null, .null, .int 0, .int 0, .int 0, .int 0, .int 0, .int 0, .int 0, .int 0, .int 0, .int 0, .int 0, .int 0, .int 0, .int 0, .int 0]))] (fun u : (Nat → Nat) × St => birdW cA u.1 u.2) (fun u => ((a, .inr (4, [.ref (h1 0), .null, .null, .null, .null, .null, .null, .int 0])) :: birdW cA h1 M1) ++ (fun u : (Nat → Nat) × St => birdW cA u.1 u.2) u) from ⟨((a, .inr (4, [.ref (h1 0), .null, .null, .null, .null, .null, .null, .int 0])) :: birdW cA h1 M1), [13], [0, 1, 2, 3, 4, 5, 6, 7, 8, 9, 10, 11, 12], [0, 1, 2, 3, 4, 5, 6, 7, 8, 9, 10, 11, 12, 13, 14, 15, 16, 17, 18, 19, 20, 21, 22, 23, 24], rfl, rfl, rfl, rfl, by decide, rfl, rfl, fun u => rfl⟩) gX4_init_X0_init rfl ⟨rfl, rfl⟩ ⟨Nat.le_of_ble_eq_true rfl, Nat.le_of_ble_eq_true rfl⟩ ⟨Nat.le_of_ble_eq_true rfl, Nat.le_of_ble_eq_true rfl⟩ rfl (Nat.le_of_ble_eq_true rfl) hdS_X0_init (List.mem_of_getElem? (i := 6) rfl) (List.mem_of_getElem? (i := 21) rfl) (List.mem_of_getElem? (i := 22) rfl) rfl rfl dX4_init_20 (fun z hz => ?_)
  obtain ⟨h2, M2⟩ := z
  obtain ⟨e2, eM2, hz2⟩ := hz
  dsimp only at e2 eM2
  subst e2
  refine g_putF C (pc := 23) tyX4 tyX4_ok nmX4 inX4_init_4 rfl 1 (by decide) rfl hin rfl (List.mem_of_getElem? (i := 8) rfl) dX4_init_23 rfl rfl 0 rfl (Nat.le_of_ble_eq_true rfl) (ws2 := ((a, .inr (4, [.ref (h1 0), .ref (h2 0), .null, .null, .null, .null, .null, .int 0])) :: (birdW cA h1 M1 ++ birdW cA h2 M2))) rfl ?_
  refine g_aload_n C (pc := 26) dX4_init_26 0 rfl ?_
  refine g_new C (pc := 27) (ci := 0) (fs := [.null, .null, .null, .int 0, .int 0, .int 0, .int 0, .int 0, .int 0, .int 0, .int 0, .int 0, .int 0, .int 0, .int 0, .int 0, .int 0, .int 0]) inX4_init_0 tyX0 tyX0_ok (List.mem_of_getElem? (i := 4) rfl) (List.mem_of_getElem? (i := 5) rfl) (List.mem_of_getElem? (i := 6) rfl) rfl (fun j hj => by rcases (show j = 0 ∨ j = 1 ∨ j = 2 ∨ j = 3 ∨ j = 4 ∨ j = 5 ∨ j = 6 ∨ j = 7 ∨ j = 8 ∨ j = 9 ∨ j = 10 ∨ j = 11 ∨ j = 12 ∨ j = 13 ∨ j = 14 ∨ j = 15 ∨ j = 16 ∨ j = 17 by omega) with rfl | rfl | rfl | rfl | rfl | rfl | rfl | rfl | rfl | rfl | rfl | rfl | rfl | rfl | rfl | rfl | rfl | rfl <;> rfl) ⟨Nat.le_of_ble_eq_true rfl, Nat.le_of_ble_eq_true rfl⟩ dX4_init_27 (fun q27 => ?_)
  refine g_dup C (pc := 30) dX4_init_30 rfl ?_
  refine g_init C (pc := 31) (As := []) (b := q27) (kX0_init l D cA T q27) (show View (((a, .inr (4, [.ref (h1 0), .ref (h2 0), .null, .null, .null, .null, .null, .int 0])) :: (birdW cA h1 M1 ++ birdW cA h2 M2)) ++ [(q27, .inr (0, [.null, .null, .null, .int 0, .int 0, .int 0, .int 0, .int 0, .int 0, .int 0, .int 0, .int 0, .int 0, .int 0, .int 0, .int 0, .int 0, .int 0]))]) [(q27, .inr (0, [.null, .null, .null, .int 0, .int 0, .int 0, .int 0, .int 0, .int 0, .int 0, .int 0, .int 0, .int 0, .int 0, .int 0, .int 0, .int 0, .int 0]))] (fun u : (Nat → Nat) × St => birdW cA u.1 u.2) (fun u => ((a, .inr (4, [.ref (h1 0), .ref (h2 0), .null, .null, .null, .null, .null, .int 0])) :: (birdW cA h1 M1 ++ birdW cA h2 M2)) ++ (fun u : (Nat → Nat) × St => birdW cA u.1 u.2) u) from ⟨((a, .inr (4, [.ref (h1 0), .ref (h2 0), .null, .null, .null, .null, .null, .int 0])) :: (birdW cA h1 M1 ++ birdW cA h2 M2)), [25], [0, 1, 2, 3, 4, 5, 6, 7, 8, 9, 10, 11, 12, 13, 14, 15, 16, 17, 18, 19, 20, 21, 22, 23, 24], [0, 1, 2, 3, 4, 5, 6, 7, 8, 9, 10, 11, 12, 13, 14, 15, 16, 17, 18, 19, 20, 21, 22, 23, 24, 25, 26, 27, 28, 29, 30, 31, 32, 33, 34, 35, 36], rfl, rfl, rfl, rfl, by decide, rfl, rfl, fun u => rfl⟩) gX4_init_X0_init rfl ⟨rfl, rfl⟩ ⟨Nat.le_of_ble_eq_true rfl, Nat.le_of_ble_eq_true rfl⟩ ⟨Nat.le_of_ble_eq_true rfl, Nat.le_of_ble_eq_true rfl⟩ rfl (Nat.le_of_ble_eq_true rfl) hdS_X0_init (List.mem_of_getElem? (i := 6) rfl) (List.mem_of_getElem? (i := 21) rfl) (List.mem_of_getElem? (i := 22) rfl) rfl rfl dX4_init_31 (fun z hz => ?_)
  obtain ⟨h3, M3⟩ := z
  obtain ⟨e3, eM3, hz3⟩ := hz
  dsimp only at e3 eM3
  subst e3
  refine g_putF C (pc := 34) tyX4 tyX4_ok nmX4 inX4_init_4 rfl 2 (by decide) rfl hin rfl (List.mem_of_getElem? (i := 9) rfl) dX4_init_34 rfl rfl 0 rfl (Nat.le_of_ble_eq_true rfl) (ws2 := ((a, .inr (4, [.ref (h1 0), .ref (h2 0), .ref (h3 0), .null, .null, .null, .null, .int 0])) :: (birdW cA h1 M1 ++ (birdW cA h2 M2 ++ birdW cA h3 M3)))) rfl ?_
  refine g_aload_n C (pc := 37) dX4_init_37 0 rfl ?_
  refine g_new C (pc := 38) (ci := 0) (fs := [.null, .null, .null, .int 0, .int 0, .int 0, .int 0, .int 0, .int 0, .int 0, .int 0, .int 0, .int 0, .int 0, .int 0, .int 0, .int 0, .int 0]) inX4_init_0 tyX0 tyX0_ok (List.mem_of_getElem? (i := 4) rfl) (List.mem_of_getElem? (i := 5) rfl) (List.mem_of_getElem? (i := 6) rfl) rfl (fun j hj => by rcases (show j = 0 ∨ j = 1 ∨ j = 2 ∨ j = 3 ∨ j = 4 ∨ j = 5 ∨ j = 6 ∨ j = 7 ∨ j = 8 ∨ j = 9 ∨ j = 10 ∨ j = 11 ∨ j = 12 ∨ j = 13 ∨ j = 14 ∨ j = 15 ∨ j = 16 ∨ j = 17 by omega) with rfl | rfl | rfl | rfl | rfl | rfl | rfl | rfl | rfl | rfl | rfl | rfl | rfl | rfl | rfl | rfl | rfl | rfl <;> rfl) ⟨Nat.le_of_ble_eq_true rfl, Nat.le_of_ble_eq_true rfl⟩ dX4_init_38 (fun q38 => ?_)
  refine g_dup C (pc := 41) dX4_init_41 rfl ?_
  refine g_init C (pc := 42) (As := []) (b := q38) (kX0_init l D cA T q38) (show View (((a, .inr (4, [.ref (h1 0), .ref (h2 0), .ref (h3 0), .null, .null, .null, .null, .int 0])) :: (birdW cA h1 M1 ++ (birdW cA h2 M2 ++ birdW cA h3 M3))) ++ [(q38, .inr (0, [.null, .null, .null, .int 0, .int 0, .int 0, .int 0, .int 0, .int 0, .int 0, .int 0, .int 0, .int 0, .int 0, .int 0, .int 0, .int 0, .int 0]))]) [(q38, .inr (0, [.null, .null, .null, .int 0, .int 0, .int 0, .int 0, .int 0, .int 0, .int 0, .int 0, .int 0, .int 0, .int 0, .int 0, .int 0, .int 0, .int 0]))] (fun u : (Nat → Nat) × St => birdW cA u.1 u.2) (fun u => ((a, .inr (4, [.ref (h1 0), .ref (h2 0), .ref (h3 0), .null, .null, .null, .null, .int 0])) :: (birdW cA h1 M1 ++ (birdW cA h2 M2 ++ birdW cA h3 M3))) ++ (fun u : (Nat → Nat) × St => birdW cA u.1 u.2) u) from ⟨((a, .inr (4, [.ref (h1 0), .ref (h2 0), .ref (h3 0), .null, .null, .null, .null, .int 0])) :: (birdW cA h1 M1 ++ (birdW cA h2 M2 ++ birdW cA h3 M3))), [37], [0, 1, 2, 3, 4, 5, 6, 7, 8, 9, 10, 11, 12, 13, 14, 15, 16, 17, 18, 19, 20, 21, 22, 23, 24, 25, 26, 27, 28, 29, 30, 31, 32, 33, 34, 35, 36], [0, 1, 2, 3, 4, 5, 6, 7, 8, 9, 10, 11, 12, 13, 14, 15, 16, 17, 18, 19, 20, 21, 22, 23, 24, 25, 26, 27, 28, 29, 30, 31, 32, 33, 34, 35, 36, 37, 38, 39, 40, 41, 42, 43, 44, 45, 46, 47, 48], rfl, rfl, rfl, rfl, by decide, rfl, rfl, fun u => rfl⟩) gX4_init_X0_init rfl ⟨rfl, rfl⟩ ⟨Nat.le_of_ble_eq_true rfl, Nat.le_of_ble_eq_true rfl⟩ ⟨Nat.le_of_ble_eq_true rfl, Nat.le_of_ble_eq_true rfl⟩ rfl (Nat.le_of_ble_eq_true rfl) hdS_X0_init (List.mem_of_getElem? (i := 6) rfl) (List.mem_of_getElem? (i := 21) rfl) (List.mem_of_getElem? (i := 22) rfl) rfl rfl dX4_init_42 (fun z hz => ?_)
  obtain ⟨h4, M4⟩ := z
  obtain ⟨e4, eM4, hz4⟩ := hz
  dsimp only at e4 eM4
  subst e4
  refine g_putF C (pc := 45) tyX4 tyX4_ok nmX4 inX4_init_4 rfl 3 (by decide) rfl hin rfl (List.mem_of_getElem? (i := 10) rfl) dX4_init_45 rfl rfl 0 rfl (Nat.le_of_ble_eq_true rfl) (ws2 := ((a, .inr (4, [.ref (h1 0), .ref (h2 0), .ref (h3 0), .ref (h4 0), .null, .null, .null, .int 0])) :: (birdW cA h1 M1 ++ (birdW cA h2 M2 ++ (birdW cA h3 M3 ++ birdW cA h4 M4))))) rfl ?_
  refine g_aload_n C (pc := 48) dX4_init_48 0 rfl ?_
  refine g_new C (pc := 49) (ci := 3) (fs := [.null, .int 0, .int 0, .int 0, .int 0, .int 0]) inX4_init_3 tyX3 tyX3_ok (List.mem_of_getElem? (i := 11) rfl) (List.mem_of_getElem? (i := 12) rfl) (List.mem_of_getElem? (i := 13) rfl) rfl (fun j hj => by rcases (show j = 0 ∨ j = 1 ∨ j = 2 ∨ j = 3 ∨ j = 4 ∨ j = 5 by omega) with rfl | rfl | rfl | rfl | rfl | rfl <;> rfl) ⟨Nat.le_of_ble_eq_true rfl, Nat.le_of_ble_eq_true rfl⟩ dX4_init_49 (fun q49 => ?_)
  refine g_dup C (pc := 52) dX4_init_52 rfl ?_
  refine g_initN C (pc := 53) (As := []) (b := q49) (kX3_init l D cA T q49) (show View (((a, .inr (4, [.ref (h1 0), .ref (h2 0), .ref (h3 0), .ref (h4 0), .null, .null, .null, .int 0])) :: (birdW cA h1 M1 ++ (birdW cA h2 M2 ++ (birdW cA h3 M3 ++ birdW cA h4 M4)))) ++ [(q49, .inr (3, [.null, .int 0, .int 0, .int 0, .int 0, .int 0]))]) [(q49, .inr (3, [.null, .int 0, .int 0, .int 0, .int 0, .int 0]))] (fun u : (Nat → Nat) × St => tapeW cA u.1 u.2) (fun u => ((a, .inr (4, [.ref (h1 0), .ref (h2 0), .ref (h3 0), .ref (h4 0), .null, .null, .null, .int 0])) :: (birdW cA h1 M1 ++ (birdW cA h2 M2 ++ (birdW cA h3 M3 ++ birdW cA h4 M4)))) ++ (fun u : (Nat → Nat) × St => tapeW cA u.1 u.2) u) from ⟨((a, .inr (4, [.ref (h1 0), .ref (h2 0), .ref (h3 0), .ref (h4 0), .null, .null, .null, .int 0])) :: (birdW cA h1 M1 ++ (birdW cA h2 M2 ++ (birdW cA h3 M3 ++ birdW cA h4 M4)))), [49], [0, 1, 2, 3, 4, 5, 6, 7, 8, 9, 10, 11, 12, 13, 14, 15, 16, 17, 18, 19, 20, 21, 22, 23, 24, 25, 26, 27, 28, 29, 30, 31, 32, 33, 34, 35, 36, 37, 38, 39, 40, 41, 42, 43, 44, 45, 46, 47, 48], [0, 1, 2, 3, 4, 5, 6, 7, 8, 9, 10, 11, 12, 13, 14, 15, 16, 17, 18, 19, 20, 21, 22, 23, 24, 25, 26, 27, 28, 29, 30, 31, 32, 33, 34, 35, 36, 37, 38, 39, 40, 41, 42, 43, 44, 45, 46, 47, 48, 49, 50, 51], rfl, rfl, rfl, rfl, by decide, rfl, rfl, fun u => rfl⟩) gX4_init_X3_init_n27 rfl ⟨rfl, rfl⟩ ⟨Nat.le_of_ble_eq_true rfl, Nat.le_of_ble_eq_true rfl⟩ ⟨Nat.le_of_ble_eq_true rfl, Nat.le_of_ble_eq_true rfl⟩ rfl (Nat.le_of_ble_eq_true rfl) hdS_X3_init (List.mem_of_getElem? (i := 13) rfl) (C.2.2.2.2.2.2.2.2.2.2.2.2.2.1) (List.mem_of_getElem? (i := 77) rfl) rfl rfl dX4_init_53 (fun z hz => ?_)
  obtain ⟨h5, M5⟩ := z
  obtain ⟨e5, eM5, -⟩ := hz
  dsimp only at e5 eM5
  subst e5
  subst eM5
  refine g_putF C (pc := 56) tyX4 tyX4_ok nmX4 inX4_init_4 rfl 4 (by decide) rfl hin rfl (List.mem_of_getElem? (i := 14) rfl) dX4_init_56 rfl rfl 0 rfl (Nat.le_of_ble_eq_true rfl) (ws2 := ((a, .inr (4, [.ref (h1 0), .ref (h2 0), .ref (h3 0), .ref (h4 0), .ref (h5 0), .null, .null, .int 0])) :: (birdW cA h1 M1 ++ (birdW cA h2 M2 ++ (birdW cA h3 M3 ++ (birdW cA h4 M4 ++ tapeW cA h5 Mz)))))) rfl ?_
  refine g_aload_n C (pc := 59) dX4_init_59 0 rfl ?_
  refine g_new C (pc := 60) (ci := 1) (fs := [.null, .int 0]) inX4_init_1 tyX1 tyX1_ok (List.mem_of_getElem? (i := 15) rfl) (List.mem_of_getElem? (i := 16) rfl) (List.mem_of_getElem? (i := 17) rfl) rfl (fun j hj => by rcases (show j = 0 ∨ j = 1 by omega) with rfl | rfl <;> rfl) ⟨Nat.le_of_ble_eq_true rfl, Nat.le_of_ble_eq_true rfl⟩ dX4_init_60 (fun q60 => ?_)
  refine g_dup C (pc := 63) dX4_init_63 rfl ?_
  refine g_bipush C (pc := 64) dX4_init_64 cB_10 ?_
  refine g_init C (pc := 66) (As := [.int 10]) (b := q60) (kX1_init l D cA T q60 10 (by decide) (by decide)) (show View (((a, .inr (4, [.ref (h1 0), .ref (h2 0), .ref (h3 0), .ref (h4 0), .ref (h5 0), .null, .null, .int 0])) :: (birdW cA h1 M1 ++ (birdW cA h2 M2 ++ (birdW cA h3 M3 ++ (birdW cA h4 M4 ++ tapeW cA h5 Mz))))) ++ [(q60, .inr (1, [.null, .int 0]))]) [(q60, .inr (1, [.null, .int 0]))] (fun u : (Nat → Nat) × St => cellsW cA 10 u.1 u.2) (fun u => ((a, .inr (4, [.ref (h1 0), .ref (h2 0), .ref (h3 0), .ref (h4 0), .ref (h5 0), .null, .null, .int 0])) :: (birdW cA h1 M1 ++ (birdW cA h2 M2 ++ (birdW cA h3 M3 ++ (birdW cA h4 M4 ++ tapeW cA h5 Mz))))) ++ (fun u : (Nat → Nat) × St => cellsW cA 10 u.1 u.2) u) from ⟨((a, .inr (4, [.ref (h1 0), .ref (h2 0), .ref (h3 0), .ref (h4 0), .ref (h5 0), .null, .null, .int 0])) :: (birdW cA h1 M1 ++ (birdW cA h2 M2 ++ (birdW cA h3 M3 ++ (birdW cA h4 M4 ++ tapeW cA h5 Mz))))), [52], [0, 1, 2, 3, 4, 5, 6, 7, 8, 9, 10, 11, 12, 13, 14, 15, 16, 17, 18, 19, 20, 21, 22, 23, 24, 25, 26, 27, 28, 29, 30, 31, 32, 33, 34, 35, 36, 37, 38, 39, 40, 41, 42, 43, 44, 45, 46, 47, 48, 49, 50, 51], [0, 1, 2, 3, 4, 5, 6, 7, 8, 9, 10, 11, 12, 13, 14, 15, 16, 17, 18, 19, 20, 21, 22, 23, 24, 25, 26, 27, 28, 29, 30, 31, 32, 33, 34, 35, 36, 37, 38, 39, 40, 41, 42, 43, 44, 45, 46, 47, 48, 49, 50, 51, 52, 53], rfl, rfl, rfl, rfl, by decide, rfl, rfl, fun u => rfl⟩) gX4_init_X1_init rfl ⟨rfl, rfl⟩ ⟨Nat.le_of_ble_eq_true rfl, Nat.le_of_ble_eq_true rfl⟩ ⟨Nat.le_of_ble_eq_true rfl, Nat.le_of_ble_eq_true rfl⟩ rfl (Nat.le_of_ble_eq_true rfl) hdS_X1_init (List.mem_of_getElem? (i := 17) rfl) (List.mem_of_getElem? (i := 88) rfl) (List.mem_of_getElem? (i := 48) rfl) rfl rfl dX4_init_66 (fun z hz => ?_)
  obtain ⟨h6, M6⟩ := z
  obtain ⟨e6, eM6⟩ := hz
  dsimp only at e6 eM6
  subst e6
  subst eM6
  refine g_putF C (pc := 69) tyX4 tyX4_ok nmX4 inX4_init_4 rfl 5 (by decide) rfl hin rfl (List.mem_of_getElem? (i := 18) rfl) dX4_init_69 rfl rfl 0 rfl (Nat.le_of_ble_eq_true rfl) (ws2 := ((a, .inr (4, [.ref (h1 0), .ref (h2 0), .ref (h3 0), .ref (h4 0), .ref (h5 0), .ref (h6 0), .null, .int 0])) :: (birdW cA h1 M1 ++ (birdW cA h2 M2 ++ (birdW cA h3 M3 ++ (birdW cA h4 M4 ++ (tapeW cA h5 Mz ++ cellsW cA 10 h6 Mz))))))) rfl ?_
  refine g_aload_n C (pc := 72) dX4_init_72 0 rfl ?_
  refine g_new C (pc := 73) (ci := 1) (fs := [.null, .int 0]) inX4_init_1 tyX1 tyX1_ok (List.mem_of_getElem? (i := 15) rfl) (List.mem_of_getElem? (i := 16) rfl) (List.mem_of_getElem? (i := 17) rfl) rfl (fun j hj => by rcases (show j = 0 ∨ j = 1 by omega) with rfl | rfl <;> rfl) ⟨Nat.le_of_ble_eq_true rfl, Nat.le_of_ble_eq_true rfl⟩ dX4_init_73 (fun q73 => ?_)
  refine g_dup C (pc := 76) dX4_init_76 rfl ?_
  refine g_bipush C (pc := 77) dX4_init_77 cB_7 ?_
  refine g_init C (pc := 79) (As := [.int 7]) (b := q73) (kX1_init l D cA T q73 7 (by decide) (by decide)) (show View (((a, .inr (4, [.ref (h1 0), .ref (h2 0), .ref (h3 0), .ref (h4 0), .ref (h5 0), .ref (h6 0), .null, .int 0])) :: (birdW cA h1 M1 ++ (birdW cA h2 M2 ++ (birdW cA h3 M3 ++ (birdW cA h4 M4 ++ (tapeW cA h5 Mz ++ cellsW cA 10 h6 Mz)))))) ++ [(q73, .inr (1, [.null, .int 0]))]) [(q73, .inr (1, [.null, .int 0]))] (fun u : (Nat → Nat) × St => cellsW cA 7 u.1 u.2) (fun u => ((a, .inr (4, [.ref (h1 0), .ref (h2 0), .ref (h3 0), .ref (h4 0), .ref (h5 0), .ref (h6 0), .null, .int 0])) :: (birdW cA h1 M1 ++ (birdW cA h2 M2 ++ (birdW cA h3 M3 ++ (birdW cA h4 M4 ++ (tapeW cA h5 Mz ++ cellsW cA 10 h6 Mz)))))) ++ (fun u : (Nat → Nat) × St => cellsW cA 7 u.1 u.2) u) from ⟨((a, .inr (4, [.ref (h1 0), .ref (h2 0), .ref (h3 0), .ref (h4 0), .ref (h5 0), .ref (h6 0), .null, .int 0])) :: (birdW cA h1 M1 ++ (birdW cA h2 M2 ++ (birdW cA h3 M3 ++ (birdW cA h4 M4 ++ (tapeW cA h5 Mz ++ cellsW cA 10 h6 Mz)))))), [54], [0, 1, 2, 3, 4, 5, 6, 7, 8, 9, 10, 11, 12, 13, 14, 15, 16, 17, 18, 19, 20, 21, 22, 23, 24, 25, 26, 27, 28, 29, 30, 31, 32, 33, 34, 35, 36, 37, 38, 39, 40, 41, 42, 43, 44, 45, 46, 47, 48, 49, 50, 51, 52, 53], [0, 1, 2, 3, 4, 5, 6, 7, 8, 9, 10, 11, 12, 13, 14, 15, 16, 17, 18, 19, 20, 21, 22, 23, 24, 25, 26, 27, 28, 29, 30, 31, 32, 33, 34, 35, 36, 37, 38, 39, 40, 41, 42, 43, 44, 45, 46, 47, 48, 49, 50, 51, 52, 53, 54, 55], rfl, rfl, rfl, rfl, by decide, rfl, rfl, fun u => rfl⟩) gX4_init_X1_init rfl ⟨rfl, rfl⟩ ⟨Nat.le_of_ble_eq_true rfl, Nat.le_of_ble_eq_true rfl⟩ ⟨Nat.le_of_ble_eq_true rfl, Nat.le_of_ble_eq_true rfl⟩ rfl (Nat.le_of_ble_eq_true rfl) hdS_X1_init (List.mem_of_getElem? (i := 17) rfl) (List.mem_of_getElem? (i := 88) rfl) (List.mem_of_getElem? (i := 48) rfl) rfl rfl dX4_init_79 (fun z hz => ?_)
  obtain ⟨h7, M7⟩ := z
  obtain ⟨e7, eM7⟩ := hz
  dsimp only at e7 eM7
  subst e7
  subst eM7
  refine g_putF C (pc := 82) tyX4 tyX4_ok nmX4 inX4_init_4 rfl 6 (by decide) rfl hin rfl (List.mem_of_getElem? (i := 19) rfl) dX4_init_82 rfl rfl 0 rfl (Nat.le_of_ble_eq_true rfl) (ws2 := ((a, .inr (4, [.ref (h1 0), .ref (h2 0), .ref (h3 0), .ref (h4 0), .ref (h5 0), .ref (h6 0), .ref (h7 0), .int 0])) :: (birdW cA h1 M1 ++ (birdW cA h2 M2 ++ (birdW cA h3 M3 ++ (birdW cA h4 M4 ++ (tapeW cA h5 Mz ++ (cellsW cA 10 h6 Mz ++ cellsW cA 7 h7 Mz)))))))) rfl ?_
  obtain ⟨h, M, ha, hM, hw⟩ : ∃ (h : Nat → Nat) (M : St), h 0 = a ∧ M = (put 37 12 M4 (put 25 12 M3 (put 13 12 M2 (put 1 12 M1 Mz)))) ∧ ((a, .inr (4, [.ref (h1 0), .ref (h2 0), .ref (h3 0), .ref (h4 0), .ref (h5 0), .ref (h6 0), .ref (h7 0), .int 0])) :: (birdW cA h1 M1 ++ (birdW cA h2 M2 ++ (birdW cA h3 M3 ++ (birdW cA h4 M4 ++ (tapeW cA h5 Mz ++ (cellsW cA 10 h6 Mz ++ cellsW cA 7 h7 Mz))))))) = mainW cA h M := ⟨(fun k : Nat => bif Nat.beq k 0 then a else (bif Nat.blt k 13 then h1 (k - 1) else (bif Nat.blt k 25 then h2 (k - 13) else (bif Nat.blt k 37 then h3 (k - 25) else (bif Nat.blt k 49 then h4 (k - 37) else (bif Nat.blt k 52 then h5 (k - 49) else (bif Nat.blt k 54 then h6 (k - 52) else (h7 (k - 54))))))))), _, rfl, rfl, rfl⟩
  refine g_conv hw ?_
  clear hw
  subst ha
  have hz : Zmain M := by rw [hM]; exact ⟨hz1.1, hz1.2.1, hz1.2.2.1, hz1.2.2.2.1, hz1.2.2.2.2, hz2.1, hz2.2.1, hz2.2.2.1, hz2.2.2.2.1, hz2.2.2.2.2, hz3.1, hz3.2.1, hz3.2.2.1, hz3.2.2.2.1, hz3.2.2.2.2, hz4.1, hz4.2.1, hz4.2.2.1, hz4.2.2.2.1, hz4.2.2.2.2, ⟨by decide, by decide, by decide⟩, ⟨by decide, by decide, by decide⟩, ⟨by decide, by decide, by decide⟩⟩
  refine g_widen 55 757 (by decide) (by decide) ?_
  refine g_prog (xX4_initT M) ?_
  unfold xX4_initT
  refine g_aload_n C (pc := 85) dX4_init_85 0 rfl ?_
  refine g_iconst C (pc := 86) dX4_init_86 cI_0 ?_
  refine g_put C (pc := 87) tyX4 tyX4_ok nmX4 inX4_init_4 rfl 7 (by decide) rfl (List.mem_of_getElem? (i := 20) rfl) dX4_init_87 rfl rfl 0 rfl (Nat.le_of_ble_eq_true rfl) (mainW cA h) (sa M 0 (up (M 0) 7 0)) rfl (fun M1 eM1 => ?_)
  have hz1 : (Zmain M1) := by rw [eM1]; exact hz
  refine g_aload_n C (pc := 90) dX4_init_90 0 rfl ?_
  refine g_get C (pc := 91) inX4_init_4 rfl 6 (by decide) (List.mem_of_getElem? (i := 19) rfl) dX4_init_91 0 rfl (.ref (h 54)) rfl ?_
  refine g_Vev C (pc := 94) (As := []) (kX1_fillUp l D cA T 7 (sh 54 h) (sh 54 M1) hz1.2.2.2.2.2.2.2.2.2.2.2.2.2.2.2.2.2.2.2.2.2.2) (v_main_cells_54 cA h M1) gX4_init_X1_fillUp rfl ⟨rfl, rfl⟩ ⟨Nat.le_of_ble_eq_true rfl, Nat.le_of_ble_eq_true rfl⟩ ⟨Nat.zero_le _, Nat.zero_le _⟩ rfl (Nat.le_of_ble_eq_true rfl) hdV_X1_fillUp 0 rfl rfl rfl dX4_init_94 (fun z2 ez2 hz_z2 => ?_)
  refine g_nmW (mainW cA h) (fun M3 eM3 => ?_)
  have hz3 : (Zmain M3) := by rw [eM3]; exact ⟨hz1.1, hz1.2.1, hz1.2.2.1, hz1.2.2.2.1, hz1.2.2.2.2.1, hz1.2.2.2.2.2.1, hz1.2.2.2.2.2.2.1, hz1.2.2.2.2.2.2.2.1, hz1.2.2.2.2.2.2.2.2.1, hz1.2.2.2.2.2.2.2.2.2.1, hz1.2.2.2.2.2.2.2.2.2.2.1, hz1.2.2.2.2.2.2.2.2.2.2.2.1, hz1.2.2.2.2.2.2.2.2.2.2.2.2.1, hz1.2.2.2.2.2.2.2.2.2.2.2.2.2.1, hz1.2.2.2.2.2.2.2.2.2.2.2.2.2.2.1, hz1.2.2.2.2.2.2.2.2.2.2.2.2.2.2.2.1, hz1.2.2.2.2.2.2.2.2.2.2.2.2.2.2.2.2.1, hz1.2.2.2.2.2.2.2.2.2.2.2.2.2.2.2.2.2.1, hz1.2.2.2.2.2.2.2.2.2.2.2.2.2.2.2.2.2.2.1, hz1.2.2.2.2.2.2.2.2.2.2.2.2.2.2.2.2.2.2.2.1, hz1.2.2.2.2.2.2.2.2.2.2.2.2.2.2.2.2.2.2.2.2.1, hz1.2.2.2.2.2.2.2.2.2.2.2.2.2.2.2.2.2.2.2.2.2.1, hz_z2⟩
  exact r_inT (v := (h, M3)) C rfl dX4_init_97 (fun q => ⟨rfl, (q.trans (by rw [hM, eM1, eM2, eM3, eM4]; rfl)), hz3⟩)
theorem inX5_init_5 : ∀ w ∈ u_ws RX5 TX5 14, w ∈ wsX5_init := by decide +kernel
noncomputable def xX5_initT (M : St) : St := nm (sa M 2 (up (M 2) 0 40)) fun M1 => nm (sa M1 2 (up (M1 2) 1 50)) fun M2 => nm (sa M2 2 (up (M2 2) 2 60)) fun M3 => nm (sa M3 2 (up (M3 2) 3 3)) fun M4 => nm (sa M4 2 (up (M4 2) 6 1)) fun M5 => nm (sa M5 2 (up (M5 2) 8 50)) fun M6 => nm (sa M6 2 (up (M6 2) 9 1)) fun M7 => nm (sa M7 2 (up (M7 2) 11 200)) fun M8 => nm (sa M8 2 (up (M8 2) 14 10)) fun M9 => nm (sa M9 2 (up (M9 2) 15 500)) fun M10 => nm (sa M10 2 (up (M10 2) 16 200)) fun M11 => nm (sa M11 2 (up (M11 2) 17 200)) fun M12 => M12
noncomputable def xX5_init : St := xX5_initT (sa Mz 0 (up (Mz 0) 7 (-9)))
set_option maxHeartbeats 4000000 in
set_option maxRecDepth 100000 in
theorem kX5_init (l : Launch) (D : va_G) (cA : ClassId) (T : Nat × Nat × Nat) (a : Nat) : ∀ sz : Nat, Met l yX5_init wsX5_init { frames := 1, cells := 9, slots := 839, locals := 12 } (va_Pc [.ref a] (PreW D cA T [(a, .inr (5, [.null, .null, .null, .null, .null, .null, .int 0, .int 0, .null, .null, .int 0, .int 0, .null, .int 0]))] sz)) (va_Qv (fun u : (Nat → Nat) × St => u.1 0 = a ∧ u.2 = xX5_init) (fun u => PostW D cA (va_A [(a, .inr (5, [.null, .null, .null, .null, .null, .null, .int 0, .int 0, .null, .null, .int 0, .int 0, .null, .int 0]))] sz) (modW cA u.1 u.2)) (va_A [(a, .inr (5, [.null, .null, .null, .null, .null, .null, .int 0, .int 0, .null, .null, .int 0, .int 0, .null, .int 0]))] sz)) 9 839 (va_A [(a, .inr (5, [.null, .null, .null, .null, .null, .null, .int 0, .int 0, .null, .null, .int 0, .int 0, .null, .int 0]))] sz) := by
  refine m_in (cc := cX5_init) (maxL := 1) (own := RX5) 9 839 (by decide) rfl rfl (Nat.le_of_ble_eq_true rfl) (fun {p e s m args below meth c} A C hin => ?_)
  refine g_aload_n C (pc := 0) dX5_init_0 0 rfl ?_
  refine g_objInit C (pc := 1) (List.mem_of_getElem? (i := 1) rfl) (List.mem_of_getElem? (i := 2) rfl) (List.mem_of_getElem? (i := 3) rfl) dX5_init_1 (Nat.le_of_ble_eq_true rfl) (Nat.le_of_ble_eq_true rfl) ?_
  refine g_aload_n C (pc := 4) dX5_init_4 0 rfl ?_
  refine g_bipush C (pc := 5) dX5_init_5 cB_7 ?_
  refine g_newa C (pc := 7) (n := 7) (N := 7) (List.mem_of_getElem? (i := 4) rfl) (by decide) tn_7 (Nat.le_of_ble_eq_true rfl) ⟨Nat.le_of_ble_eq_true rfl, Nat.le_of_ble_eq_true rfl⟩ dX5_init_7 (fun q7 => ?_)
  refine g_putF C (pc := 9) tyX5 tyX5_ok nmX5 inX5_init_5 rfl 0 (by decide) rfl hin rfl (List.mem_of_getElem? (i := 5) rfl) dX5_init_9 rfl rfl 0 rfl (Nat.le_of_ble_eq_true rfl) (ws2 := ((a, .inr (5, [.ref q7, .null, .null, .null, .null, .null, .int 0, .int 0, .null, .null, .int 0, .int 0, .null, .int 0])) :: [(q7, .inl (cA, 7, .inl (fun _ => 0)))])) rfl ?_
  refine g_aload_n C (pc := 12) dX5_init_12 0 rfl ?_
  refine g_sipush C (pc := 13) dX5_init_13 cS_151 ?_
  refine g_newa C (pc := 16) (n := 151) (N := 151) (List.mem_of_getElem? (i := 4) rfl) (by decide) tn_151 (Nat.le_of_ble_eq_true rfl) ⟨Nat.le_of_ble_eq_true rfl, Nat.le_of_ble_eq_true rfl⟩ dX5_init_16 (fun q16 => ?_)
  refine g_putF C (pc := 18) tyX5 tyX5_ok nmX5 inX5_init_5 rfl 1 (by decide) rfl hin rfl (List.mem_of_getElem? (i := 6) rfl) dX5_init_18 rfl rfl 0 rfl (Nat.le_of_ble_eq_true rfl) (ws2 := ((a, .inr (5, [.ref q7, .ref q16, .null, .null, .null, .null, .int 0, .int 0, .null, .null, .int 0, .int 0, .null, .int 0])) :: ([(q7, .inl (cA, 7, .inl (fun _ => 0)))] ++ [(q16, .inl (cA, 151, .inl (fun _ => 0)))]))) rfl ?_
  refine g_aload_n C (pc := 21) dX5_init_21 0 rfl ?_
  refine g_sipush C (pc := 22) dX5_init_22 cS_151 ?_
  refine g_newa C (pc := 25) (n := 151) (N := 151) (List.mem_of_getElem? (i := 4) rfl) (by decide) tn_151 (Nat.le_of_ble_eq_true rfl) ⟨Nat.le_of_ble_eq_true rfl, Nat.le_of_ble_eq_true rfl⟩ dX5_init_25 (fun q25 => ?_)
  refine g_putF C (pc := 27) tyX5 tyX5_ok nmX5 inX5_init_5 rfl 2 (by decide) rfl hin rfl (List.mem_of_getElem? (i := 7) rfl) dX5_init_27 rfl rfl 0 rfl (Nat.le_of_ble_eq_true rfl) (ws2 := ((a, .inr (5, [.ref q7, .ref q16, .ref q25, .null, .null, .null, .int 0, .int 0, .null, .null, .int 0, .int 0, .null, .int 0])) :: ([(q7, .inl (cA, 7, .inl (fun _ => 0)))] ++ ([(q16, .inl (cA, 151, .inl (fun _ => 0)))] ++ [(q25, .inl (cA, 151, .inl (fun _ => 0)))])))) rfl ?_
  refine g_aload_n C (pc := 30) dX5_init_30 0 rfl ?_
  refine g_sipush C (pc := 31) dX5_init_31 cS_151 ?_
  refine g_newa C (pc := 34) (n := 151) (N := 151) (List.mem_of_getElem? (i := 4) rfl) (by decide) tn_151 (Nat.le_of_ble_eq_true rfl) ⟨Nat.le_of_ble_eq_true rfl, Nat.le_of_ble_eq_true rfl⟩ dX5_init_34 (fun q34 => ?_)
  refine g_putF C (pc := 36) tyX5 tyX5_ok nmX5 inX5_init_5 rfl 3 (by decide) rfl hin rfl (List.mem_of_getElem? (i := 8) rfl) dX5_init_36 rfl rfl 0 rfl (Nat.le_of_ble_eq_true rfl) (ws2 := ((a, .inr (5, [.ref q7, .ref q16, .ref q25, .ref q34, .null, .null, .int 0, .int 0, .null, .null, .int 0, .int 0, .null, .int 0])) :: ([(q7, .inl (cA, 7, .inl (fun _ => 0)))] ++ ([(q16, .inl (cA, 151, .inl (fun _ => 0)))] ++ ([(q25, .inl (cA, 151, .inl (fun _ => 0)))] ++ [(q34, .inl (cA, 151, .inl (fun _ => 0)))]))))) rfl ?_
  refine g_aload_n C (pc := 39) dX5_init_39 0 rfl ?_
  refine g_sipush C (pc := 40) dX5_init_40 cS_151 ?_
  refine g_newa C (pc := 43) (n := 151) (N := 151) (List.mem_of_getElem? (i := 4) rfl) (by decide) tn_151 (Nat.le_of_ble_eq_true rfl) ⟨Nat.le_of_ble_eq_true rfl, Nat.le_of_ble_eq_true rfl⟩ dX5_init_43 (fun q43 => ?_)
  refine g_putF C (pc := 45) tyX5 tyX5_ok nmX5 inX5_init_5 rfl 4 (by decide) rfl hin rfl (List.mem_of_getElem? (i := 9) rfl) dX5_init_45 rfl rfl 0 rfl (Nat.le_of_ble_eq_true rfl) (ws2 := ((a, .inr (5, [.ref q7, .ref q16, .ref q25, .ref q34, .ref q43, .null, .int 0, .int 0, .null, .null, .int 0, .int 0, .null, .int 0])) :: ([(q7, .inl (cA, 7, .inl (fun _ => 0)))] ++ ([(q16, .inl (cA, 151, .inl (fun _ => 0)))] ++ ([(q25, .inl (cA, 151, .inl (fun _ => 0)))] ++ ([(q34, .inl (cA, 151, .inl (fun _ => 0)))] ++ [(q43, .inl (cA, 151, .inl (fun _ => 0)))])))))) rfl ?_
  refine g_aload_n C (pc := 48) dX5_init_48 0 rfl ?_
  refine g_sipush C (pc := 49) dX5_init_49 cS_151 ?_
  refine g_newa C (pc := 52) (n := 151) (N := 151) (List.mem_of_getElem? (i := 4) rfl) (by decide) tn_151 (Nat.le_of_ble_eq_true rfl) ⟨Nat.le_of_ble_eq_true rfl, Nat.le_of_ble_eq_true rfl⟩ dX5_init_52 (fun q52 => ?_)
  refine g_putF C (pc := 54) tyX5 tyX5_ok nmX5 inX5_init_5 rfl 5 (by decide) rfl hin rfl (List.mem_of_getElem? (i := 10) rfl) dX5_init_54 rfl rfl 0 rfl (Nat.le_of_ble_eq_true rfl) (ws2 := ((a, .inr (5, [.ref q7, .ref q16, .ref q25, .ref q34, .ref q43, .ref q52, .int 0, .int 0, .null, .null, .int 0, .int 0, .null, .int 0])) :: ([(q7, .inl (cA, 7, .inl (fun _ => 0)))] ++ ([(q16, .inl (cA, 151, .inl (fun _ => 0)))] ++ ([(q25, .inl (cA, 151, .inl (fun _ => 0)))] ++ ([(q34, .inl (cA, 151, .inl (fun _ => 0)))] ++ ([(q43, .inl (cA, 151, .inl (fun _ => 0)))] ++ [(q52, .inl (cA, 151, .inl (fun _ => 0)))]))))))) rfl ?_
  refine g_aload_n C (pc := 57) dX5_init_57 0 rfl ?_
  refine g_bipush C (pc := 58) dX5_init_58 cB_m9 ?_
  refine g_putL C (pc := 60) tyX5 tyX5_ok nmX5 inX5_init_5 rfl 7 (by decide) rfl (List.mem_of_getElem? (i := 11) rfl) dX5_init_60 rfl rfl 0 rfl (Nat.le_of_ble_eq_true rfl) (ws2 := ((a, .inr (5, [.ref q7, .ref q16, .ref q25, .ref q34, .ref q43, .ref q52, .int 0, .int (-9), .null, .null, .int 0, .int 0, .null, .int 0])) :: ([(q7, .inl (cA, 7, .inl (fun _ => 0)))] ++ ([(q16, .inl (cA, 151, .inl (fun _ => 0)))] ++ ([(q25, .inl (cA, 151, .inl (fun _ => 0)))] ++ ([(q34, .inl (cA, 151, .inl (fun _ => 0)))] ++ ([(q43, .inl (cA, 151, .inl (fun _ => 0)))] ++ [(q52, .inl (cA, 151, .inl (fun _ => 0)))]))))))) rfl ?_
  refine g_aload_n C (pc := 63) dX5_init_63 0 rfl ?_
  refine g_bipush C (pc := 64) dX5_init_64 cB_64 ?_
  refine g_newa C (pc := 66) (n := 64) (N := 64) (List.mem_of_getElem? (i := 4) rfl) (by decide) tn_64 (Nat.le_of_ble_eq_true rfl) ⟨Nat.le_of_ble_eq_true rfl, Nat.le_of_ble_eq_true rfl⟩ dX5_init_66 (fun q66 => ?_)
  refine g_putF C (pc := 68) tyX5 tyX5_ok nmX5 inX5_init_5 rfl 8 (by decide) rfl hin rfl (List.mem_of_getElem? (i := 12) rfl) dX5_init_68 rfl rfl 0 rfl (Nat.le_of_ble_eq_true rfl) (ws2 := ((a, .inr (5, [.ref q7, .ref q16, .ref q25, .ref q34, .ref q43, .ref q52, .int 0, .int (-9), .ref q66, .null, .int 0, .int 0, .null, .int 0])) :: ([(q7, .inl (cA, 7, .inl (fun _ => 0)))] ++ ([(q16, .inl (cA, 151, .inl (fun _ => 0)))] ++ ([(q25, .inl (cA, 151, .inl (fun _ => 0)))] ++ ([(q34, .inl (cA, 151, .inl (fun _ => 0)))] ++ ([(q43, .inl (cA, 151, .inl (fun _ => 0)))] ++ ([(q52, .inl (cA, 151, .inl (fun _ => 0)))] ++ [(q66, .inl (cA, 64, .inl (fun _ => 0)))])))))))) rfl ?_
  refine g_aload_n C (pc := 71) dX5_init_71 0 rfl ?_
  refine g_iconst C (pc := 72) dX5_init_72 cI_3 ?_
  refine g_newa C (pc := 73) (n := 3) (N := 3) (List.mem_of_getElem? (i := 4) rfl) (by decide) tn_3 (Nat.le_of_ble_eq_true rfl) ⟨Nat.le_of_ble_eq_true rfl, Nat.le_of_ble_eq_true rfl⟩ dX5_init_73 (fun q73 => ?_)
  refine g_putF C (pc := 75) tyX5 tyX5_ok nmX5 inX5_init_5 rfl 9 (by decide) rfl hin rfl (List.mem_of_getElem? (i := 13) rfl) dX5_init_75 rfl rfl 0 rfl (Nat.le_of_ble_eq_true rfl) (ws2 := ((a, .inr (5, [.ref q7, .ref q16, .ref q25, .ref q34, .ref q43, .ref q52, .int 0, .int (-9), .ref q66, .ref q73, .int 0, .int 0, .null, .int 0])) :: ([(q7, .inl (cA, 7, .inl (fun _ => 0)))] ++ ([(q16, .inl (cA, 151, .inl (fun _ => 0)))] ++ ([(q25, .inl (cA, 151, .inl (fun _ => 0)))] ++ ([(q34, .inl (cA, 151, .inl (fun _ => 0)))] ++ ([(q43, .inl (cA, 151, .inl (fun _ => 0)))] ++ ([(q52, .inl (cA, 151, .inl (fun _ => 0)))] ++ ([(q66, .inl (cA, 64, .inl (fun _ => 0)))] ++ [(q73, .inl (cA, 3, .inl (fun _ => 0)))]))))))))) rfl ?_
  refine g_aload_n C (pc := 78) dX5_init_78 0 rfl ?_
  refine g_bipush C (pc := 79) dX5_init_79 cB_10 ?_
  refine g_newa C (pc := 81) (n := 10) (N := 10) (List.mem_of_getElem? (i := 4) rfl) (by decide) tn_10 (Nat.le_of_ble_eq_true rfl) ⟨Nat.le_of_ble_eq_true rfl, Nat.le_of_ble_eq_true rfl⟩ dX5_init_81 (fun q81 => ?_)
  refine g_putF C (pc := 83) tyX5 tyX5_ok nmX5 inX5_init_5 rfl 12 (by decide) rfl hin rfl (List.mem_of_getElem? (i := 14) rfl) dX5_init_83 rfl rfl 0 rfl (Nat.le_of_ble_eq_true rfl) (ws2 := ((a, .inr (5, [.ref q7, .ref q16, .ref q25, .ref q34, .ref q43, .ref q52, .int 0, .int (-9), .ref q66, .ref q73, .int 0, .int 0, .ref q81, .int 0])) :: ([(q7, .inl (cA, 7, .inl (fun _ => 0)))] ++ ([(q16, .inl (cA, 151, .inl (fun _ => 0)))] ++ ([(q25, .inl (cA, 151, .inl (fun _ => 0)))] ++ ([(q34, .inl (cA, 151, .inl (fun _ => 0)))] ++ ([(q43, .inl (cA, 151, .inl (fun _ => 0)))] ++ ([(q52, .inl (cA, 151, .inl (fun _ => 0)))] ++ ([(q66, .inl (cA, 64, .inl (fun _ => 0)))] ++ ([(q73, .inl (cA, 3, .inl (fun _ => 0)))] ++ [(q81, .inl (cA, 10, .inl (fun _ => 0)))])))))))))) rfl ?_
  obtain ⟨h, M, ha, hM, hw⟩ : ∃ (h : Nat → Nat) (M : St), h 0 = a ∧ M = (sa Mz 0 (up (Mz 0) 7 (-9))) ∧ ((a, .inr (5, [.ref q7, .ref q16, .ref q25, .ref q34, .ref q43, .ref q52, .int 0, .int (-9), .ref q66, .ref q73, .int 0, .int 0, .ref q81, .int 0])) :: ([(q7, .inl (cA, 7, .inl (fun _ => 0)))] ++ ([(q16, .inl (cA, 151, .inl (fun _ => 0)))] ++ ([(q25, .inl (cA, 151, .inl (fun _ => 0)))] ++ ([(q34, .inl (cA, 151, .inl (fun _ => 0)))] ++ ([(q43, .inl (cA, 151, .inl (fun _ => 0)))] ++ ([(q52, .inl (cA, 151, .inl (fun _ => 0)))] ++ ([(q66, .inl (cA, 64, .inl (fun _ => 0)))] ++ ([(q73, .inl (cA, 3, .inl (fun _ => 0)))] ++ [(q81, .inl (cA, 10, .inl (fun _ => 0)))]))))))))) = modW cA h M := ⟨(fun k : Nat => bif Nat.beq k 0 then a else (bif Nat.blt k 2 then q7 else (bif Nat.blt k 3 then q16 else (bif Nat.blt k 4 then q25 else (bif Nat.blt k 5 then q34 else (bif Nat.blt k 6 then q43 else (bif Nat.blt k 7 then q52 else (bif Nat.blt k 8 then q66 else (bif Nat.blt k 9 then q73 else (q81)))))))))), _, rfl, rfl, rfl⟩
  refine g_conv hw ?_
  clear hw
  subst ha
  refine g_widen 9 839 (by decide) (by decide) ?_
  refine g_prog (xX5_initT M) ?_
  unfold xX5_initT
  refine g_aload_n C (pc := 86) dX5_init_86 0 rfl ?_
  refine g_get C (pc := 87) inX5_init_5 rfl 1 (by decide) (List.mem_of_getElem? (i := 6) rfl) dX5_init_87 0 rfl (.ref (h 2)) rfl ?_
  refine g_iconst C (pc := 90) dX5_init_90 cI_0 ?_
  refine g_bipush C (pc := 91) dX5_init_91 cB_40 ?_
  refine g_iast C (pc := 93) dX5_init_93 2 rfl inb_0_151 (0) tn_0 (modW cA h) (sa M 2 (up (M 2) 0 40)) rfl (fun M1 eM1 => ?_)
  refine g_aload_n C (pc := 94) dX5_init_94 0 rfl ?_
  refine g_get C (pc := 95) inX5_init_5 rfl 1 (by decide) (List.mem_of_getElem? (i := 6) rfl) dX5_init_95 0 rfl (.ref (h 2)) rfl ?_
  refine g_iconst C (pc := 98) dX5_init_98 cI_1 ?_
  refine g_bipush C (pc := 99) dX5_init_99 cB_50 ?_
  refine g_iast C (pc := 101) dX5_init_101 2 rfl inb_1_151 (1) tn_1 (modW cA h) (sa M1 2 (up (M1 2) 1 50)) rfl (fun M2 eM2 => ?_)
  refine g_aload_n C (pc := 102) dX5_init_102 0 rfl ?_
  refine g_get C (pc := 103) inX5_init_5 rfl 1 (by decide) (List.mem_of_getElem? (i := 6) rfl) dX5_init_103 0 rfl (.ref (h 2)) rfl ?_
  refine g_iconst C (pc := 106) dX5_init_106 cI_2 ?_
  refine g_bipush C (pc := 107) dX5_init_107 cB_60 ?_
  refine g_iast C (pc := 109) dX5_init_109 2 rfl inb_2_151 (2) tn_2 (modW cA h) (sa M2 2 (up (M2 2) 2 60)) rfl (fun M3 eM3 => ?_)
  refine g_aload_n C (pc := 110) dX5_init_110 0 rfl ?_
  refine g_get C (pc := 111) inX5_init_5 rfl 1 (by decide) (List.mem_of_getElem? (i := 6) rfl) dX5_init_111 0 rfl (.ref (h 2)) rfl ?_
  refine g_iconst C (pc := 114) dX5_init_114 cI_3 ?_
  refine g_iconst C (pc := 115) dX5_init_115 cI_3 ?_
  refine g_iast C (pc := 116) dX5_init_116 2 rfl inb_3_151 (3) tn_3 (modW cA h) (sa M3 2 (up (M3 2) 3 3)) rfl (fun M4 eM4 => ?_)
  refine g_aload_n C (pc := 117) dX5_init_117 0 rfl ?_
  refine g_get C (pc := 118) inX5_init_5 rfl 1 (by decide) (List.mem_of_getElem? (i := 6) rfl) dX5_init_118 0 rfl (.ref (h 2)) rfl ?_
  refine g_bipush C (pc := 121) dX5_init_121 cB_6 ?_
  refine g_iconst C (pc := 123) dX5_init_123 cI_1 ?_
  refine g_iast C (pc := 124) dX5_init_124 2 rfl inb_6_151 (6) tn_6 (modW cA h) (sa M4 2 (up (M4 2) 6 1)) rfl (fun M5 eM5 => ?_)
  refine g_aload_n C (pc := 125) dX5_init_125 0 rfl ?_
  refine g_get C (pc := 126) inX5_init_5 rfl 1 (by decide) (List.mem_of_getElem? (i := 6) rfl) dX5_init_126 0 rfl (.ref (h 2)) rfl ?_
  refine g_bipush C (pc := 129) dX5_init_129 cB_8 ?_
  refine g_bipush C (pc := 131) dX5_init_131 cB_50 ?_
  refine g_iast C (pc := 133) dX5_init_133 2 rfl inb_8_151 (8) tn_8 (modW cA h) (sa M5 2 (up (M5 2) 8 50)) rfl (fun M6 eM6 => ?_)
  refine g_aload_n C (pc := 134) dX5_init_134 0 rfl ?_
  refine g_get C (pc := 135) inX5_init_5 rfl 1 (by decide) (List.mem_of_getElem? (i := 6) rfl) dX5_init_135 0 rfl (.ref (h 2)) rfl ?_
  refine g_bipush C (pc := 138) dX5_init_138 cB_9 ?_
  refine g_iconst C (pc := 140) dX5_init_140 cI_1 ?_
  refine g_iast C (pc := 141) dX5_init_141 2 rfl inb_9_151 (9) tn_9 (modW cA h) (sa M6 2 (up (M6 2) 9 1)) rfl (fun M7 eM7 => ?_)
  refine g_aload_n C (pc := 142) dX5_init_142 0 rfl ?_
  refine g_get C (pc := 143) inX5_init_5 rfl 1 (by decide) (List.mem_of_getElem? (i := 6) rfl) dX5_init_143 0 rfl (.ref (h 2)) rfl ?_
  refine g_bipush C (pc := 146) dX5_init_146 cB_11 ?_
  refine g_sipush C (pc := 148) dX5_init_148 cS_200 ?_
  refine g_iast C (pc := 151) dX5_init_151 2 rfl inb_11_151 (11) tn_11 (modW cA h) (sa M7 2 (up (M7 2) 11 200)) rfl (fun M8 eM8 => ?_)
  refine g_aload_n C (pc := 152) dX5_init_152 0 rfl ?_
  refine g_get C (pc := 153) inX5_init_5 rfl 1 (by decide) (List.mem_of_getElem? (i := 6) rfl) dX5_init_153 0 rfl (.ref (h 2)) rfl ?_
  refine g_bipush C (pc := 156) dX5_init_156 cB_14 ?_
  refine g_bipush C (pc := 158) dX5_init_158 cB_10 ?_
  refine g_iast C (pc := 160) dX5_init_160 2 rfl inb_14_151 (14) tn_14 (modW cA h) (sa M8 2 (up (M8 2) 14 10)) rfl (fun M9 eM9 => ?_)
  refine g_aload_n C (pc := 161) dX5_init_161 0 rfl ?_
  refine g_get C (pc := 162) inX5_init_5 rfl 1 (by decide) (List.mem_of_getElem? (i := 6) rfl) dX5_init_162 0 rfl (.ref (h 2)) rfl ?_
  refine g_bipush C (pc := 165) dX5_init_165 cB_15 ?_
  refine g_sipush C (pc := 167) dX5_init_167 cS_500 ?_
  refine g_iast C (pc := 170) dX5_init_170 2 rfl inb_15_151 (15) tn_15 (modW cA h) (sa M9 2 (up (M9 2) 15 500)) rfl (fun M10 eM10 => ?_)
  refine g_aload_n C (pc := 171) dX5_init_171 0 rfl ?_
  refine g_get C (pc := 172) inX5_init_5 rfl 1 (by decide) (List.mem_of_getElem? (i := 6) rfl) dX5_init_172 0 rfl (.ref (h 2)) rfl ?_
  refine g_bipush C (pc := 175) dX5_init_175 cB_16 ?_
  refine g_sipush C (pc := 177) dX5_init_177 cS_200 ?_
  refine g_iast C (pc := 180) dX5_init_180 2 rfl inb_16_151 (16) tn_16 (modW cA h) (sa M10 2 (up (M10 2) 16 200)) rfl (fun M11 eM11 => ?_)
  refine g_aload_n C (pc := 181) dX5_init_181 0 rfl ?_
  refine g_get C (pc := 182) inX5_init_5 rfl 1 (by decide) (List.mem_of_getElem? (i := 6) rfl) dX5_init_182 0 rfl (.ref (h 2)) rfl ?_
  refine g_bipush C (pc := 185) dX5_init_185 cB_17 ?_
  refine g_sipush C (pc := 187) dX5_init_187 cS_200 ?_
  refine g_iast C (pc := 190) dX5_init_190 2 rfl inb_17_151 (17) tn_17 (modW cA h) (sa M11 2 (up (M11 2) 17 200)) rfl (fun M12 eM12 => ?_)
  exact r_inT (v := (h, M12)) C rfl dX5_init_191 (fun q => ⟨rfl, (q.trans (by rw [hM]; rfl))⟩)
