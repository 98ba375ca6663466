theorem inX1_size_1 : ∀ w ∈ u_ws RX1 TX1 2, w ∈ wsX1_size := by decide +kernel
noncomputable def xX1_size (n : Nat) (M : St) : Int32 := M 0 1
set_option maxHeartbeats 4000000 in
set_option maxRecDepth 100000 in
theorem kX1_size (l : Launch) (D : va_G) (cA : ClassId) (T : Nat × Nat × Nat) (n : Nat) (h : Nat → Nat) (M : St) (hz : (Zcells n M)) : ∀ sz : Nat, Met l yX1_size wsX1_size { frames := 0, cells := 0, slots := 0, locals := 0 } (va_Pc [.ref (h 0)] (PreW D cA T (cellsW cA n h M) sz)) (va_Qi (fun r (_ : Unit) => r = (xX1_size n M)) (fun _ => PostW D cA (va_A (cellsW cA n h M) sz) (cellsW cA n h M)) (va_A (cellsW cA n h M) sz)) 0 0 (va_A (cellsW cA n h M) sz) := by
  refine m_pi (cc := cX1_size) (maxL := 1) (own := RX1) (by decide) rfl rfl (Nat.le_of_ble_eq_true rfl) (fun {p e s m args below meth c} A C X => ?_)
  show G p l e { frames := 0, cells := 0, slots := 0, locals := 0 } s m args below meth c 0 0 D A (Qpi below D cA A args s (cellsW cA n h M) X) 1 X (xX1_size n M) (cellsW cA n h M) 0 [(0, .ref (h 0))] []
  unfold xX1_size
  refine g_aload_n C (pc := 0) dX1_size_0 0 rfl ?_
  refine g_get C (pc := 1) inX1_size_1 rfl 1 (by decide) (List.mem_of_getElem? (i := 1) rfl) dX1_size_1 0 rfl (.int (M 0 1)) rfl ?_
  exact r_pi C rfl dX1_size_4
theorem inX1_at_1 : ∀ w ∈ u_ws RX1 TX1 2, w ∈ wsX1_at := by decide +kernel
noncomputable def xX1_at (n : Nat) (M : St) (p0 : Int32) : Int32 := if p0 < 0 then (0) else (if M 0 1 ≤ p0 then (0) else ((M 1 (p0 : Int32).toNatClampNeg)))
set_option maxHeartbeats 4000000 in
set_option maxRecDepth 100000 in
theorem kX1_at (l : Launch) (D : va_G) (cA : ClassId) (T : Nat × Nat × Nat) (n : Nat) (h : Nat → Nat) (M : St) (p0 : Int32) (hz : (Zcells n M)) : ∀ sz : Nat, Met l yX1_at wsX1_at { frames := 0, cells := 0, slots := 0, locals := 0 } (va_Pc [.ref (h 0), .int p0] (PreW D cA T (cellsW cA n h M) sz)) (va_Qi (fun r (_ : Unit) => r = (xX1_at n M p0)) (fun _ => PostW D cA (va_A (cellsW cA n h M) sz) (cellsW cA n h M)) (va_A (cellsW cA n h M) sz)) 0 0 (va_A (cellsW cA n h M) sz) := by
  refine m_pi (cc := cX1_at) (maxL := 2) (own := RX1) (by decide) rfl rfl (Nat.le_of_ble_eq_true rfl) (fun {p e s m args below meth c} A C X => ?_)
  show G p l e { frames := 0, cells := 0, slots := 0, locals := 0 } s m args below meth c 0 0 D A (Qpi below D cA A args s (cellsW cA n h M) X) 2 X (xX1_at n M p0) (cellsW cA n h M) 0 [(0, .ref (h 0)), (1, .int p0)] []
  unfold xX1_at
  refine g_iload_n C (pc := 0) dX1_at_0 1 rfl ?_
  refine g_if_lt C (pc := 1) 21 dX1_at_1 (by decide) (fun c1 => ?_) (fun c1 => ?_)
  · refine g_iconst C (pc := 21) dX1_at_21 cI_0 ?_
    exact r_pi C rfl dX1_at_22
  · refine g_iload_n C (pc := 4) dX1_at_4 1 rfl ?_
    refine g_aload_n C (pc := 5) dX1_at_5 0 rfl ?_
    refine g_get C (pc := 6) inX1_at_1 rfl 1 (by decide) (List.mem_of_getElem? (i := 1) rfl) dX1_at_6 0 rfl (.int (M 0 1)) rfl ?_
    refine g_icmp_ge C (pc := 9) 21 dX1_at_9 (by decide) (fun c2 => ?_) (fun c2 => ?_)
    · refine g_iconst C (pc := 21) dX1_at_21 cI_0 ?_
      exact r_pi C rfl dX1_at_22
    · refine g_aload_n C (pc := 12) dX1_at_12 0 rfl ?_
      refine g_get C (pc := 13) inX1_at_1 rfl 0 (by decide) (List.mem_of_getElem? (i := 2) rfl) dX1_at_13 0 rfl (.ref (h 1)) rfl ?_
      refine g_iload_n C (pc := 16) dX1_at_16 1 rfl ?_
      refine g_iald C (pc := 17) dX1_at_17 1 rfl (cz_in hz c1 c2) (M 1 (p0 : Int32).toNatClampNeg) rfl ?_
      refine g_goto C (pc := 18) 22 dX1_at_18 (by decide) ?_
      exact r_pi C rfl dX1_at_22
theorem inX1_put_1 : ∀ w ∈ u_ws RX1 TX1 2, w ∈ wsX1_put := by decide +kernel
noncomputable def xX1_put (n : Nat) (M : St) (p0 : Int32) (p1 : Int32) : St := if p0 < 0 then (M) else (if M 0 1 ≤ p0 then (M) else (nm (sa M 1 (up (M 1) ((p0 : Int32).toNatClampNeg) p1)) fun M3 => M3))
set_option maxHeartbeats 4000000 in
set_option maxRecDepth 100000 in
theorem kX1_put (l : Launch) (D : va_G) (cA : ClassId) (T : Nat × Nat × Nat) (n : Nat) (h : Nat → Nat) (M : St) (p0 : Int32) (p1 : Int32) (hz : (Zcells n M)) : ∀ sz : Nat, Met l yX1_put wsX1_put { frames := 0, cells := 0, slots := 0, locals := 0 } (va_Pc [.ref (h 0), .int p0, .int p1] (PreW D cA T (cellsW cA n h M) sz)) (va_Qv (fun u => u = (xX1_put n M p0 p1) ∧ (Zcells n) u) (fun u => PostW D cA (va_A (cellsW cA n h M) sz) (cellsW cA n h u)) (va_A (cellsW cA n h M) sz)) 0 0 (va_A (cellsW cA n h M) sz) := by
  refine m_ev (Wf := cellsW cA n h) (inv := (Zcells n)) (cc := cX1_put) (maxL := 3) (own := RX1) (by decide) rfl rfl (Nat.le_of_ble_eq_true rfl) (fun {p e s m args below meth c} A C X => ?_)
  show G p l e { frames := 0, cells := 0, slots := 0, locals := 0 } s m args below meth c 0 0 D A (Qev below D cA A args s 0 0 (cellsW cA n h) (Zcells n) X) 3 X (xX1_put n M p0 p1) (cellsW cA n h M) 0 [(0, .ref (h 0)), (1, .int p0), (2, .int p1)] []
  unfold xX1_put
  refine g_iload_n C (pc := 0) dX1_put_0 1 rfl ?_
  refine g_if_lt C (pc := 1) 19 dX1_put_1 (by decide) (fun c1 => ?_) (fun c1 => ?_)
  · exact r_ev C rfl dX1_put_19 hz
  · refine g_iload_n C (pc := 4) dX1_put_4 1 rfl ?_
    refine g_aload_n C (pc := 5) dX1_put_5 0 rfl ?_
    refine g_get C (pc := 6) inX1_put_1 rfl 1 (by decide) (List.mem_of_getElem? (i := 1) rfl) dX1_put_6 0 rfl (.int (M 0 1)) rfl ?_
    refine g_icmp_ge C (pc := 9) 19 dX1_put_9 (by decide) (fun c2 => ?_) (fun c2 => ?_)
    · exact r_ev C rfl dX1_put_19 hz
    · refine g_aload_n C (pc := 12) dX1_put_12 0 rfl ?_
      refine g_get C (pc := 13) inX1_put_1 rfl 0 (by decide) (List.mem_of_getElem? (i := 2) rfl) dX1_put_13 0 rfl (.ref (h 1)) rfl ?_
      refine g_iload_n C (pc := 16) dX1_put_16 1 rfl ?_
      refine g_iload_n C (pc := 17) dX1_put_17 2 rfl ?_
      refine g_iast C (pc := 18) dX1_put_18 1 rfl (cz_in hz c1 c2) ((p0 : Int32).toNatClampNeg) rfl (cellsW cA n h) (sa M 1 (up (M 1) ((p0 : Int32).toNatClampNeg) p1)) rfl (fun M3 eM3 => ?_)
      have hz3 : (Zcells n M3) := by rw [eM3]; exact hz
      exact r_ev C rfl dX1_put_19 hz3
theorem inX1_add_1 : ∀ w ∈ u_ws RX1 TX1 2, w ∈ wsX1_add := by decide +kernel
noncomputable def xX1_add (n : Nat) (M : St) (p0 : Int32) : St := if (nI n) ≤ M 0 1 then (M) else (nm (sa M 1 (up (M 1) ((M 0 1 : Int32).toNatClampNeg) p0)) fun M2 => nm (sa M2 0 (up (M2 0) 1 (M2 0 1 + 1))) fun M3 => M3)
set_option maxHeartbeats 4000000 in
set_option maxRecDepth 100000 in
theorem kX1_add (l : Launch) (D : va_G) (cA : ClassId) (T : Nat × Nat × Nat) (n : Nat) (h : Nat → Nat) (M : St) (p0 : Int32) (hz : (Zcells n M)) : ∀ sz : Nat, Met l yX1_add wsX1_add { frames := 0, cells := 0, slots := 0, locals := 0 } (va_Pc [.ref (h 0), .int p0] (PreW D cA T (cellsW cA n h M) sz)) (va_Qv (fun u => u = (xX1_add n M p0) ∧ (Zcells n) u) (fun u => PostW D cA (va_A (cellsW cA n h M) sz) (cellsW cA n h u)) (va_A (cellsW cA n h M) sz)) 0 0 (va_A (cellsW cA n h M) sz) := by
  refine m_ev (Wf := cellsW cA n h) (inv := (Zcells n)) (cc := cX1_add) (maxL := 2) (own := RX1) (by decide) rfl rfl (Nat.le_of_ble_eq_true rfl) (fun {p e s m args below meth c} A C X => ?_)
  show G p l e { frames := 0, cells := 0, slots := 0, locals := 0 } s m args below meth c 0 0 D A (Qev below D cA A args s 0 0 (cellsW cA n h) (Zcells n) X) 2 X (xX1_add n M p0) (cellsW cA n h M) 0 [(0, .ref (h 0)), (1, .int p0)] []
  unfold xX1_add
  refine g_aload_n C (pc := 0) dX1_add_0 0 rfl ?_
  refine g_get C (pc := 1) inX1_add_1 rfl 1 (by decide) (List.mem_of_getElem? (i := 1) rfl) dX1_add_1 0 rfl (.int (M 0 1)) rfl ?_
  refine g_aload_n C (pc := 4) dX1_add_4 0 rfl ?_
  refine g_get C (pc := 5) inX1_add_1 rfl 0 (by decide) (List.mem_of_getElem? (i := 2) rfl) dX1_add_5 0 rfl (.ref (h 1)) rfl ?_
  refine g_alen C (pc := 8) dX1_add_8 1 rfl ((nI n)) rfl ?_
  refine g_icmp_ge C (pc := 9) 32 dX1_add_9 (by decide) (fun c1 => ?_) (fun c1 => ?_)
  · exact r_ev C rfl dX1_add_32 hz
  · refine g_aload_n C (pc := 12) dX1_add_12 0 rfl ?_
    refine g_get C (pc := 13) inX1_add_1 rfl 0 (by decide) (List.mem_of_getElem? (i := 2) rfl) dX1_add_13 0 rfl (.ref (h 1)) rfl ?_
    refine g_aload_n C (pc := 16) dX1_add_16 0 rfl ?_
    refine g_get C (pc := 17) inX1_add_1 rfl 1 (by decide) (List.mem_of_getElem? (i := 1) rfl) dX1_add_17 0 rfl (.int (M 0 1)) rfl ?_
    refine g_iload_n C (pc := 20) dX1_add_20 1 rfl ?_
    refine g_iast C (pc := 21) dX1_add_21 1 rfl (cz_add hz c1) ((M 0 1 : Int32).toNatClampNeg) rfl (cellsW cA n h) (sa M 1 (up (M 1) ((M 0 1 : Int32).toNatClampNeg) p0)) rfl (fun M2 eM2 => ?_)
    have hz2 : (Zcells n M2) := by rw [eM2]; exact hz
    refine g_aload_n C (pc := 22) dX1_add_22 0 rfl ?_
    refine g_dup C (pc := 23) dX1_add_23 rfl ?_
    refine g_get C (pc := 24) inX1_add_1 rfl 1 (by decide) (List.mem_of_getElem? (i := 1) rfl) dX1_add_24 0 rfl (.int (M2 0 1)) rfl ?_
    refine g_iconst C (pc := 27) dX1_add_27 cI_1 ?_
    refine g_iadd C (pc := 28) dX1_add_28 ?_
    refine g_put C (pc := 29) tyX1 tyX1_ok nmX1 inX1_add_1 rfl 1 (by decide) rfl (List.mem_of_getElem? (i := 1) rfl) dX1_add_29 rfl rfl 0 rfl (Nat.le_of_ble_eq_true rfl) (cellsW cA n h) (sa M2 0 (up (M2 0) 1 (M2 0 1 + 1))) rfl (fun M3 eM3 => ?_)
    have hz3 : (Zcells n M3) := (by rw [eM3, eM2]; exact cz_inc hz c1 rfl)
    exact r_ev C rfl dX1_add_32 hz3
theorem inX1_cutTo_1 : ∀ w ∈ u_ws RX1 TX1 2, w ∈ wsX1_cutTo := by decide +kernel
noncomputable def xX1_cutTo (n : Nat) (M : St) (p0 : Int32) : St := if p0 < 0 then (M) else (if M 0 1 ≤ p0 then (M) else (nm (sa M 0 (up (M 0) 1 p0)) fun M3 => M3))
set_option maxHeartbeats 4000000 in
set_option maxRecDepth 100000 in
theorem kX1_cutTo (l : Launch) (D : va_G) (cA : ClassId) (T : Nat × Nat × Nat) (n : Nat) (h : Nat → Nat) (M : St) (p0 : Int32) (hz : (Zcells n M)) : ∀ sz : Nat, Met l yX1_cutTo wsX1_cutTo { frames := 0, cells := 0, slots := 0, locals := 0 } (va_Pc [.ref (h 0), .int p0] (PreW D cA T (cellsW cA n h M) sz)) (va_Qv (fun u => u = (xX1_cutTo n M p0) ∧ (Zcells n) u) (fun u => PostW D cA (va_A (cellsW cA n h M) sz) (cellsW cA n h u)) (va_A (cellsW cA n h M) sz)) 0 0 (va_A (cellsW cA n h M) sz) := by
  refine m_ev (Wf := cellsW cA n h) (inv := (Zcells n)) (cc := cX1_cutTo) (maxL := 2) (own := RX1) (by decide) rfl rfl (Nat.le_of_ble_eq_true rfl) (fun {p e s m args below meth c} A C X => ?_)
  show G p l e { frames := 0, cells := 0, slots := 0, locals := 0 } s m args below meth c 0 0 D A (Qev below D cA A args s 0 0 (cellsW cA n h) (Zcells n) X) 2 X (xX1_cutTo n M p0) (cellsW cA n h M) 0 [(0, .ref (h 0)), (1, .int p0)] []
  unfold xX1_cutTo
  refine g_iload_n C (pc := 0) dX1_cutTo_0 1 rfl ?_
  refine g_if_lt C (pc := 1) 17 dX1_cutTo_1 (by decide) (fun c1 => ?_) (fun c1 => ?_)
  · exact r_ev C rfl dX1_cutTo_17 hz
  · refine g_iload_n C (pc := 4) dX1_cutTo_4 1 rfl ?_
    refine g_aload_n C (pc := 5) dX1_cutTo_5 0 rfl ?_
    refine g_get C (pc := 6) inX1_cutTo_1 rfl 1 (by decide) (List.mem_of_getElem? (i := 1) rfl) dX1_cutTo_6 0 rfl (.int (M 0 1)) rfl ?_
    refine g_icmp_ge C (pc := 9) 17 dX1_cutTo_9 (by decide) (fun c2 => ?_) (fun c2 => ?_)
    · exact r_ev C rfl dX1_cutTo_17 hz
    · refine g_aload_n C (pc := 12) dX1_cutTo_12 0 rfl ?_
      refine g_iload_n C (pc := 13) dX1_cutTo_13 1 rfl ?_
      refine g_put C (pc := 14) tyX1 tyX1_ok nmX1 inX1_cutTo_1 rfl 1 (by decide) rfl (List.mem_of_getElem? (i := 1) rfl) dX1_cutTo_14 rfl rfl 0 rfl (Nat.le_of_ble_eq_true rfl) (cellsW cA n h) (sa M 0 (up (M 0) 1 p0)) rfl (fun M3 eM3 => ?_)
      have hz3 : (Zcells n M3) := (by rw [eM3]; exact cz_cut hz c1 c2 rfl)
      exact r_ev C rfl dX1_cutTo_17 hz3
theorem inX1_clear_1 : ∀ w ∈ u_ws RX1 TX1 2, w ∈ wsX1_clear := by decide +kernel
noncomputable def xX1_clear (n : Nat) (M : St) : St := nm (sa M 0 (up (M 0) 1 0)) fun M1 => M1
set_option maxHeartbeats 4000000 in
set_option maxRecDepth 100000 in
theorem kX1_clear (l : Launch) (D : va_G) (cA : ClassId) (T : Nat × Nat × Nat) (n : Nat) (h : Nat → Nat) (M : St) (hz : (Zcells n M)) : ∀ sz : Nat, Met l yX1_clear wsX1_clear { frames := 0, cells := 0, slots := 0, locals := 0 } (va_Pc [.ref (h 0)] (PreW D cA T (cellsW cA n h M) sz)) (va_Qv (fun u => u = (xX1_clear n M) ∧ (Zcells n) u) (fun u => PostW D cA (va_A (cellsW cA n h M) sz) (cellsW cA n h u)) (va_A (cellsW cA n h M) sz)) 0 0 (va_A (cellsW cA n h M) sz) := by
  refine m_ev (Wf := cellsW cA n h) (inv := (Zcells n)) (cc := cX1_clear) (maxL := 1) (own := RX1) (by decide) rfl rfl (Nat.le_of_ble_eq_true rfl) (fun {p e s m args below meth c} A C X => ?_)
  show G p l e { frames := 0, cells := 0, slots := 0, locals := 0 } s m args below meth c 0 0 D A (Qev below D cA A args s 0 0 (cellsW cA n h) (Zcells n) X) 1 X (xX1_clear n M) (cellsW cA n h M) 0 [(0, .ref (h 0))] []
  unfold xX1_clear
  refine g_aload_n C (pc := 0) dX1_clear_0 0 rfl ?_
  refine g_iconst C (pc := 1) dX1_clear_1 cI_0 ?_
  refine g_put C (pc := 2) tyX1 tyX1_ok nmX1 inX1_clear_1 rfl 1 (by decide) rfl (List.mem_of_getElem? (i := 1) rfl) dX1_clear_2 rfl rfl 0 rfl (Nat.le_of_ble_eq_true rfl) (cellsW cA n h) (sa M 0 (up (M 0) 1 0)) rfl (fun M1 eM1 => ?_)
  have hz1 : (Zcells n M1) := (by rw [eM1]; exact cz_zero hz rfl)
  exact r_ev C rfl dX1_clear_5 hz1
theorem inX1_fillUp_1 : ∀ w ∈ u_ws RX1 TX1 2, w ∈ wsX1_fillUp := by decide +kernel
noncomputable def xX1_fillUp_l5 (n : Nat) : Nat → St → Int32 → St
  | 0, M3, _ => (M3)
  | k + 1, M3, v2 => if (nI n) ≤ v2 then (M3) else (nm (xX1_add n M3 0) fun M5 => nm (v2 + 1 : Int32) fun x6 => xX1_fillUp_l5 n k M5 x6)
noncomputable def xX1_fillUp (n : Nat) (M : St) : St := nm (M 0 1 : Int32) fun x1 => xX1_fillUp_l5 n (mu x1 (nI n) + 1) M x1
set_option maxHeartbeats 4000000 in
set_option maxRecDepth 100000 in
theorem kX1_fillUp (l : Launch) (D : va_G) (cA : ClassId) (T : Nat × Nat × Nat) (n : Nat) (h : Nat → Nat) (M : St) (hz : (Zcells n M)) : ∀ sz : Nat, Met l yX1_fillUp wsX1_fillUp { frames := 1, cells := 0, slots := 0, locals := 21 } (va_Pc [.ref (h 0)] (PreW D cA T (cellsW cA n h M) sz)) (va_Qv (fun u => u = (xX1_fillUp n M) ∧ (Zcells n) u) (fun u => PostW D cA (va_A (cellsW cA n h M) sz) (cellsW cA n h u)) (va_A (cellsW cA n h M) sz)) 0 0 (va_A (cellsW cA n h M) sz) := by
  refine m_ev (Wf := cellsW cA n h) (inv := (Zcells n)) (cc := cX1_fillUp) (maxL := 2) (own := RX1) (by decide) rfl rfl (Nat.le_of_ble_eq_true rfl) (fun {p e s m args below meth c} A C X => ?_)
  show G p l e { frames := 1, cells := 0, slots := 0, locals := 21 } s m args below meth c 0 0 D A (Qev below D cA A args s 0 0 (cellsW cA n h) (Zcells n) X) 2 X (xX1_fillUp n M) (cellsW cA n h M) 0 [(0, .ref (h 0))] []
  unfold xX1_fillUp
  refine g_aload_n C (pc := 0) dX1_fillUp_0 0 rfl ?_
  refine g_get C (pc := 1) inX1_fillUp_1 rfl 1 (by decide) (List.mem_of_getElem? (i := 1) rfl) dX1_fillUp_1 0 rfl (.int (M 0 1)) rfl ?_
  refine g_nmi (fun x1 ex1 => ?_)
  refine g_istore_n C (pc := 4) [(1, .int x1), (0, .ref (h 0))] dX1_fillUp_4 (by decide) rfl ?_
  have L5 : ∀ (k : Nat) (M3 : St) (v2 : Int32), (Zcells n M3) → mu v2 (nI n) < k → G p l e { frames := 1, cells := 0, slots := 0, locals := 21 } s m args below meth c 0 0 D A (Qev below D cA A args s 0 0 (cellsW cA n h) (Zcells n) X) 2 X (xX1_fillUp_l5 n k M3 v2) (cellsW cA n h M3) 5 [(0, .ref (h 0)), (1, .int v2)] [] := by
    intro k
    induction k with
    | zero => intro M3 v2 hz3 hmu; exact absurd hmu (Nat.not_lt_zero _)
    | succ k ih =>
      intro M3 v2 hz3 hmu
      rw [xX1_fillUp_l5]
      refine g_iload_n C (pc := 5) dX1_fillUp_5 1 rfl ?_
      refine g_aload_n C (pc := 6) dX1_fillUp_6 0 rfl ?_
      refine g_get C (pc := 7) inX1_fillUp_1 rfl 0 (by decide) (List.mem_of_getElem? (i := 2) rfl) dX1_fillUp_7 0 rfl (.ref (h 1)) rfl ?_
      refine g_alen C (pc := 10) dX1_fillUp_10 1 rfl ((nI n)) rfl ?_
      refine g_icmp_ge C (pc := 11) 25 dX1_fillUp_11 (by decide) (fun c4 => ?_) (fun c4 => ?_)
      · exact r_ev C rfl dX1_fillUp_25 hz3
      · refine g_aload_n C (pc := 14) dX1_fillUp_14 0 rfl ?_
        refine g_iconst C (pc := 15) dX1_fillUp_15 cI_0 ?_
        refine g_Vev C (pc := 16) (As := [.int 0]) (kX1_add l D cA T n h M3 0 hz3) (v_id (cellsW cA n h) M3 2 (fun _ => rfl) rfl) gX1_fillUp_X1_add rfl ⟨rfl, rfl⟩ ⟨Nat.le_of_ble_eq_true rfl, Nat.le_of_ble_eq_true rfl⟩ ⟨Nat.zero_le _, Nat.zero_le _⟩ rfl (Nat.le_of_ble_eq_true rfl) hdV_X1_add 0 rfl rfl rfl dX1_fillUp_16 (fun M5 eM5 hz_M5 => ?_)
        have hz5 := hz_M5
        refine g_iincN C (pc := 19) 1 (fun y => [(1, .int y), (0, .ref (h 0))]) dX1_fillUp_19 1 rfl cI_1 (by decide) (fun _ => rfl) (fun x6 ex6 => ?_)
        refine g_goto C (pc := 22) 5 dX1_fillUp_22 (by decide) ?_
        refine g_sub [1, 0] rfl ?_
        exact ih M5 x6 hz5 (by rw [ex6]; exact lp_dec c4 hmu)
  refine g_sub [1, 0] rfl ?_
  exact L5 _ M x1 hz (Nat.lt_succ_self _)
theorem inX1_become_1 : ∀ w ∈ u_ws RX1 TX1 2, w ∈ wsX1_become := by decide +kernel
noncomputable def xX1_become (n : Nat) (k : Nat) (M : St) : St := nm ((if (nI n) < M 2 1 then (nI n) else M 2 1) : Int32) fun x1 => nm (sa M 1 (va_cpy (M 3) (M 1) (0 : Int32).toNatClampNeg (0 : Int32).toNatClampNeg (x1 : Int32).toNatClampNeg)) fun M2 => nm (sa M2 0 (up (M2 0) 1 x1)) fun M3 => M3
set_option maxHeartbeats 4000000 in
set_option maxRecDepth 100000 in
theorem kX1_become (l : Launch) (D : va_G) (cA : ClassId) (T : Nat × Nat × Nat) (n : Nat) (k : Nat) (h : Nat → Nat) (M : St) (hz : (Zcells2 n k M)) : ∀ sz : Nat, Met l yX1_become wsX1_become { frames := 1, cells := 0, slots := 0, locals := 64 } (va_Pc [.ref (h 0), .ref (h 2)] (PreW D cA T (cells2W cA n k h M) sz)) (va_Qv (fun u => u = (xX1_become n k M) ∧ (Zcells2 n k) u) (fun u => PostW D cA (va_A (cells2W cA n k h M) sz) (cells2W cA n k h u)) (va_A (cells2W cA n k h M) sz)) 0 0 (va_A (cells2W cA n k h M) sz) := by
  refine m_ev (Wf := cells2W cA n k h) (inv := (Zcells2 n k)) (cc := cX1_become) (maxL := 3) (own := RX1) (by decide) rfl rfl (Nat.le_of_ble_eq_true rfl) (fun {p e s m args below meth c} A C X => ?_)
  show G p l e { frames := 1, cells := 0, slots := 0, locals := 64 } s m args below meth c 0 0 D A (Qev below D cA A args s 0 0 (cells2W cA n k h) (Zcells2 n k) X) 3 X (xX1_become n k M) (cells2W cA n k h M) 0 [(0, .ref (h 0)), (1, .ref (h 2))] []
  unfold xX1_become
  refine g_aload_n C (pc := 0) dX1_become_0 1 rfl ?_
  refine g_get C (pc := 1) inX1_become_1 rfl 1 (by decide) (List.mem_of_getElem? (i := 1) rfl) dX1_become_1 2 rfl (.int (M 2 1)) rfl ?_
  refine g_aload_n C (pc := 4) dX1_become_4 0 rfl ?_
  refine g_get C (pc := 5) inX1_become_1 rfl 0 (by decide) (List.mem_of_getElem? (i := 2) rfl) dX1_become_5 0 rfl (.ref (h 1)) rfl ?_
  refine g_alen C (pc := 8) dX1_become_8 1 rfl ((nI n)) rfl ?_
  refine g_min C (pc := 9) (List.mem_of_getElem? (i := 3) rfl) (List.mem_of_getElem? (i := 4) rfl) (List.mem_of_getElem? (i := 5) rfl) (List.mem_of_getElem? (i := 6) rfl) ⟨Nat.le_of_ble_eq_true rfl, Nat.le_of_ble_eq_true rfl, Nat.zero_le _, Nat.zero_le _⟩ dX1_become_9 ?_
  refine g_nmi (fun x1 ex1 => ?_)
  refine g_istore_n C (pc := 12) [(2, .int x1), (0, .ref (h 0)), (1, .ref (h 2))] dX1_become_12 (by decide) rfl ?_
  refine g_aload_n C (pc := 13) dX1_become_13 2 rfl ?_
  refine g_get C (pc := 14) inX1_become_1 rfl 0 (by decide) (List.mem_of_getElem? (i := 2) rfl) dX1_become_14 2 rfl (.ref (h 3)) rfl ?_
  refine g_iconst C (pc := 17) dX1_become_17 cI_0 ?_
  refine g_aload_n C (pc := 18) dX1_become_18 1 rfl ?_
  refine g_get C (pc := 19) inX1_become_1 rfl 0 (by decide) (List.mem_of_getElem? (i := 2) rfl) dX1_become_19 0 rfl (.ref (h 1)) rfl ?_
  refine g_iconst C (pc := 22) dX1_become_22 cI_0 ?_
  refine g_iload_n C (pc := 23) dX1_become_23 0 rfl ?_
  refine g_copy C (pc := 24) (List.mem_of_getElem? (i := 7) rfl) (List.mem_of_getElem? (i := 8) rfl) (List.mem_of_getElem? (i := 9) rfl) (List.mem_of_getElem? (i := 10) rfl) ⟨Nat.le_of_ble_eq_true rfl, Nat.le_of_ble_eq_true rfl⟩ dX1_become_24 3 1 rfl rfl (by decide) (by decide) (cz_b3 hz.1 hz.2 ex1) (cz_b4 hz.1 hz.2 ex1) (cz_b5 hz.1 hz.2 ex1) (cells2W cA n k h) (sa M 1 (va_cpy (M 3) (M 1) (0 : Int32).toNatClampNeg (0 : Int32).toNatClampNeg (x1 : Int32).toNatClampNeg)) rfl (fun M2 eM2 => ?_)
  have hz2 : (Zcells2 n k M2) := by rw [eM2]; exact hz
  refine g_aload_n C (pc := 27) dX1_become_27 1 rfl ?_
  refine g_iload_n C (pc := 28) dX1_become_28 0 rfl ?_
  refine g_put C (pc := 29) tyX1 tyX1_ok nmX1 inX1_become_1 rfl 1 (by decide) rfl (List.mem_of_getElem? (i := 1) rfl) dX1_become_29 rfl rfl 0 rfl (Nat.le_of_ble_eq_true rfl) (cells2W cA n k h) (sa M2 0 (up (M2 0) 1 x1)) rfl (fun M3 eM3 => ?_)
  have hz3 : (Zcells2 n k M3) := (by rw [eM3, eM2]; exact ⟨cz_b hz.1 hz.2 ex1 rfl, hz.2⟩)
  exact r_ev C rfl dX1_become_32 hz3
