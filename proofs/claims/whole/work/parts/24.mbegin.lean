theorem inX5_begins_5 : ∀ w ∈ u_ws RX5 TX5 14, w ∈ wsX5_begins := by decide +kernel
noncomputable def xX5_begins (M : St) : St := nm (xX5_copies (sh2 2 1 4 M)) fun z1 => nm (put2 2 1 4 1 z1 M) fun M2 => M2
set_option maxHeartbeats 4000000 in
set_option maxRecDepth 100000 in
theorem kX5_begins (l : Launch) (D : va_G) (cA : ClassId) (T : Nat × Nat × Nat) (h : Nat → Nat) (M : St) (hz : (Zmod M)) : ∀ sz : Nat, Met l yX5_begins wsX5_begins { frames := 1, cells := 0, slots := 0, locals := 22 } (va_Pc [.ref (h 0)] (PreW D cA T (modW cA h M) sz)) (va_Qv (fun u => u = (xX5_begins M) ∧ (Zmod) u) (fun u => PostW D cA (va_A (modW cA h M) sz) (modW cA h u)) (va_A (modW cA h M) sz)) 0 0 (va_A (modW cA h M) sz) := by
  refine m_ev (Wf := modW cA h) (inv := (Zmod)) (cc := cX5_begins) (maxL := 1) (own := RX5) (by decide) rfl rfl (Nat.le_of_ble_eq_true rfl) (fun {p e s m args below meth c} A C X => ?_)
  show G p l e { frames := 1, cells := 0, slots := 0, locals := 22 } s m args below meth c 0 0 D A (Qev below D cA A args s 0 0 (modW cA h) (Zmod) X) 1 X (xX5_begins M) (modW cA h M) 0 [(0, .ref (h 0))] []
  unfold xX5_begins
  refine g_aload_n C (pc := 0) dX5_begins_0 0 rfl ?_
  refine g_get C (pc := 1) inX5_begins_5 rfl 1 (by decide) (List.mem_of_getElem? (i := 1) rfl) dX5_begins_1 0 rfl (.ref (h 2)) rfl ?_
  refine g_aload_n C (pc := 4) dX5_begins_4 0 rfl ?_
  refine g_get C (pc := 5) inX5_begins_5 rfl 3 (by decide) (List.mem_of_getElem? (i := 2) rfl) dX5_begins_5 0 rfl (.ref (h 4)) rfl ?_
  refine g_Sev C (pc := 8) (As := [.ref (h 2), .ref (h 4)]) (kX5_copies l D cA T (sh2 2 1 4 h) (sh2 2 1 4 M) trivial) (v_mod_arr2_2_4 cA h M) gX5_begins_X5_copies rfl ⟨rfl, rfl⟩ ⟨Nat.le_of_ble_eq_true rfl, Nat.le_of_ble_eq_true rfl⟩ ⟨Nat.zero_le _, Nat.zero_le _⟩ rfl (Nat.le_of_ble_eq_true rfl) hdS_X5_copies rfl dX5_begins_8 (fun z1 ez1 hz_z1 => ?_)
  refine g_nmW (modW cA h) (fun M2 eM2 => ?_)
  have hz2 : (Zmod M2) := (zp_24 hz ez1 eM2)
  exact r_ev C rfl dX5_begins_11 hz2
theorem inX5_fresh_5 : ∀ w ∈ u_ws RX5 TX5 14, w ∈ wsX5_fresh := by decide +kernel
noncomputable def xX5_fresh (M : St) : St := nm (xX5_freshens (sh2 2 1 4 M)) fun z1 => nm (put2 2 1 4 1 z1 M) fun M2 => M2
set_option maxHeartbeats 4000000 in
set_option maxRecDepth 100000 in
theorem kX5_fresh (l : Launch) (D : va_G) (cA : ClassId) (T : Nat × Nat × Nat) (h : Nat → Nat) (M : St) (hz : (Zmod M)) : ∀ sz : Nat, Met l yX5_fresh wsX5_fresh { frames := 2, cells := 0, slots := 0, locals := 44 } (va_Pc [.ref (h 0)] (PreW D cA T (modW cA h M) sz)) (va_Qv (fun u => u = (xX5_fresh M) ∧ (Zmod) u) (fun u => PostW D cA (va_A (modW cA h M) sz) (modW cA h u)) (va_A (modW cA h M) sz)) 0 0 (va_A (modW cA h M) sz) := by
  refine m_ev (Wf := modW cA h) (inv := (Zmod)) (cc := cX5_fresh) (maxL := 1) (own := RX5) (by decide) rfl rfl (Nat.le_of_ble_eq_true rfl) (fun {p e s m args below meth c} A C X => ?_)
  show G p l e { frames := 2, cells := 0, slots := 0, locals := 44 } s m args below meth c 0 0 D A (Qev below D cA A args s 0 0 (modW cA h) (Zmod) X) 1 X (xX5_fresh M) (modW cA h M) 0 [(0, .ref (h 0))] []
  unfold xX5_fresh
  refine g_aload_n C (pc := 0) dX5_fresh_0 0 rfl ?_
  refine g_get C (pc := 1) inX5_fresh_5 rfl 1 (by decide) (List.mem_of_getElem? (i := 1) rfl) dX5_fresh_1 0 rfl (.ref (h 2)) rfl ?_
  refine g_aload_n C (pc := 4) dX5_fresh_4 0 rfl ?_
  refine g_get C (pc := 5) inX5_fresh_5 rfl 3 (by decide) (List.mem_of_getElem? (i := 2) rfl) dX5_fresh_5 0 rfl (.ref (h 4)) rfl ?_
  refine g_Sev C (pc := 8) (As := [.ref (h 2), .ref (h 4)]) (kX5_freshens l D cA T (sh2 2 1 4 h) (sh2 2 1 4 M) trivial) (v_mod_arr2_2_4 cA h M) gX5_fresh_X5_freshens rfl ⟨rfl, rfl⟩ ⟨Nat.le_of_ble_eq_true rfl, Nat.le_of_ble_eq_true rfl⟩ ⟨Nat.zero_le _, Nat.zero_le _⟩ rfl (Nat.le_of_ble_eq_true rfl) hdS_X5_freshens rfl dX5_fresh_8 (fun z1 ez1 hz_z1 => ?_)
  refine g_nmW (modW cA h) (fun M2 eM2 => ?_)
  have hz2 : (Zmod M2) := (zp_f24 hz ez1 eM2)
  exact r_ev C rfl dX5_fresh_11 hz2
theorem begins_eq (M : St) : xX5_begins M = put2 2 1 4 1 (xX5_copies (sh2 2 1 4 M)) M := by
  unfold xX5_begins
  rw [nm_eq, nm_eq]
theorem fresh_eq (M : St) : xX5_fresh M = put2 2 1 4 1 (xX5_freshens (sh2 2 1 4 M)) M := by
  unfold xX5_fresh
  rw [nm_eq, nm_eq]
theorem rz_b2 {M N z : St} (hz : Zmod M) (c : ∀ j, z 1 j = if j < 151 then sh2 2 1 4 M 0 j else sh2 2 1 4 M 1 j) (e : N = put2 2 1 4 1 z M) : rz (N 4) := by
  subst e
  have h : rz (z 1) := rz_ext hz.1 (fun j hj => by rw [c j, if_pos hj]; rfl)
  exact h
theorem rz_f2 {M N z : St} (hz : Zmod M) (c : ∀ j, z 1 j = if j = 150 then 0 else if j = 89 then 0 else if j = 18 then xX5_lesser 500 (100 * sh2 2 1 4 M 0 0) else if j = 17 then sh2 2 1 4 M 0 11 else if j = 16 then sh2 2 1 4 M 0 11 else if 16 ≤ j ∧ j ≤ 28 then 0 else if j < 151 then sh2 2 1 4 M 0 j else sh2 2 1 4 M 1 j) (e : N = put2 2 1 4 1 z M) : rz (N 4) := by
  subst e
  have e1 : z 1 89 = 0 := by rw [c 89, if_neg (by decide), if_pos rfl]
  have e2 : z 1 150 = 0 := by rw [c 150, if_pos rfl]
  have e3 : z 1 6 = M 2 6 := by
    rw [c 6, if_neg (by decide), if_neg (by decide), if_neg (by decide), if_neg (by decide), if_neg (by decide), if_neg (by decide), if_pos (by decide)]
    rfl
  have h : rz (z 1) := by
    unfold rz
    rw [e1, e2, e3]
    exact ⟨by decide, by decide, hz.1.2.2⟩
  exact h
theorem rz_begins {M N : St} (hz : Zmod M) (e : N = xX5_begins M) : rz (N 4) := rz_b2 hz (copies_eq (sh2 2 1 4 M)).2 (e.trans (begins_eq M))
theorem rz_fresh {M N : St} (hz : Zmod M) (e : N = xX5_fresh M) : rz (N 4) := rz_f2 hz (freshens_eq (sh2 2 1 4 M)).2 (e.trans (fresh_eq M))
