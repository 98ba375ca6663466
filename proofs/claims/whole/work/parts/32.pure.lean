theorem air_rel {b M N : St} {v : Nat → Int32} (h : BE 0 b (M 0)) (hz : rz (M 0)) (hd : DRA b v) (h7 : M 0 7 = 0 ∨ M 0 7 = 1) {x1 x2 v7 x8 pr : Int32} {M3 M4 M5 M9 M10 M11 M12 : St} (e1 : x1 = xX0_airOf b 11) (e2 : x2 = xX0_goingOff b (xX0_airOf b 8) (xX0_airOf b 9)) (e3 : M3 = sa b 0 (up (b 0) 6 (b 0 6 - x2))) (e4 : M4 = sa M3 0 (up (M3 0) 8 (M3 0 8 + x2))) (e5 : M5 = sa M4 0 (up (M4 0) 9 (M4 0 9 + x2))) (e7 : v7 = if xX1_at 15 (sh 1 M5) 7 = 1 then 2 else 1) (e8 : x8 = xX0_airOf M5 10 * v7) (e9 : M9 = sa M5 0 (up (M5 0) 4 (M5 0 4 + ((x1 - M5 0 4) / 20 - x2 / 10)))) (e10 : M10 = sa M9 0 (up (M9 0) 5 (M9 0 5 + ((x1 - M9 0 5) / 20 + x8)))) (ep : pr = xX0_pressure M10) (e11 : M11 = sa M10 0 (up (M10 0) 15 pr)) (e12 : M12 = sa M11 0 (up (M11 0) 13 (M11 0 13 + 1))) (eN : N = xX5_airs v M) : BE 1 M12 (N 0) ∧ M12 0 16 = b 0 16 ∧ (∀ j, (j < 15 ∨ 28 < j ∨ j = 15 ∨ j = 19 ∨ (22 ≤ j ∧ j ≤ 27)) → N 0 j = M 0 j) := by
  have h0 := h
  obtain ⟨hs, ⟨a1, a2, a3, a4, a5, a6, a7, a8, a9, a10, a11, a12, a13, a14⟩, hk, -⟩ := h
  unfold xX5_airs at eN
  obtain ⟨y1, f1, eN⟩ := nm_el eN
  obtain ⟨w5, f5, eN⟩ := nm_el eN
  obtain ⟨w7, f7, eN⟩ := nm_el eN
  obtain ⟨y8, f8, eN⟩ := nm_el eN
  obtain ⟨w10, f10, eN⟩ := nm_el eN
  obtain ⟨y11, f11, eN⟩ := nm_el eN
  obtain ⟨N12, f12, eN⟩ := nm_el eN
  obtain ⟨N13, f13, eN⟩ := nm_el eN
  obtain ⟨N14, f14, eN⟩ := nm_el eN
  obtain ⟨y15, f15, eN⟩ := nm_el eN
  obtain ⟨N16, f16, eN⟩ := nm_el eN
  obtain ⟨N17, f17, eN⟩ := nm_el eN
  obtain ⟨N18, f18, eN⟩ := nm_el eN
  subst eN
  have r1 : xX0_airOf b 8 = y1 := by rw [f1]; exact airOf_rel (M := sh 0 M) (j := 8) hs hk hz a8 rfl (by decide) (by decide)
  have r2 : xX0_airOf b 9 = w7 := by rw [f7]; exact airOf9_rel (M := sh 0 M) hd hs hk hz a8
  have hx : x2 = y11 := by
    rw [e2, r1, r2]
    exact going_rel hs a6 a4 f5 f8 f10 f11
  have n14 : ∀ j, (j < 15 ∨ 28 < j ∨ j = 22) → N14 0 j = M 0 j := by
    intro j hj
    rw [f14, sa_eq, up_ne (by omega), f13, sa_eq, up_ne (by omega), f12, sa_eq, up_ne (by omega)]
  have n16 : ∀ j, (j < 15 ∨ 28 < j ∨ j = 22) → N16 0 j = M 0 j := by
    intro j hj
    rw [f16, sa_eq, up_ne (by omega)]
    exact n14 j hj
  have b5 : ∀ c, c ≠ 0 → M5 c = b c := by
    intro c hc
    rw [e5, sa_ne hc, e4, sa_ne hc, e3, sa_ne hc]
  have r3 : x1 = y15 := by
    rw [e1, f15]
    exact airOf_rel (M := sh 0 N14) (j := 11) (hs.fr (fun _ _ => rfl) (fun j hj => n14 j (by omega))) (hk.fr (fun _ _ => rfl) (fun j hj => n14 j (by omega))) (rz_ex hz (fun j hj => n14 j (by omega))) (a8.trans (n14 22 (by omega)).symm) rfl (by decide) (by decide)
  have hs5 : SET M5 (N16 0) := hs.fr b5 (fun j hj => n16 j (by omega))
  have t5 : M5 0 10 = b 0 10 := by simp [e5, e4, e3, sa_eq, up_get]
  have r4 : xX0_airOf M5 10 = xX5_airOf (sh 0 N16) 10 := airOf_rel (M := sh 0 N16) (j := 10) hs5 (hk.fr b5 (fun j hj => n16 j (by omega))) (rz_ex hz (fun j hj => n16 j (by omega))) (t5.trans (a8.trans (n16 22 (by omega)).symm)) rfl (by decide) (by decide)
  have r5 : v7 = N16 0 7 + 1 := by
    rw [e7, at15 hs5 7 7 rfl (by decide), n16 7 (by omega)]
    rcases h7 with q | q <;> rw [q] <;> rfl
  have r6 : x8 = xX5_airOf (sh 0 N16) 10 * (N16 0 7 + 1) := by rw [e8, r4, r5]
  rw [← r6] at f17
  rw [← hx, ← r3] at f16
  rw [← r3] at f17
  rw [← hx] at f12 f13 f14
  clear r6 r5 r4 r3 r2 r1 f1 f5 f7 f8 f10 f11 e1 e2 e7 e8 f15 hx hs5 n16
  have k4 : M10 0 4 = N17 0 16 := by simp [e10, e9, e5, e4, e3, f17, f16, f14, f13, f12, sa_eq, up_get, a2]
  have k5 : M10 0 5 = N17 0 17 := by simp [e10, e9, e5, e4, e3, f17, f16, f14, f13, f12, sa_eq, up_get, a3]
  have n17 : ∀ j, (j < 15 ∨ 28 < j) → N17 0 j = M 0 j := by
    intro j hj
    rw [f17, sa_eq, up_ne (by omega), f16, sa_eq, up_ne (by omega)]
    exact n14 j (by omega)
  have b10 : ∀ c, c ≠ 0 → M10 c = b c := by
    intro c hc
    rw [e10, sa_ne hc, e9, sa_ne hc, b5 c hc]
  have hp : pr = (N17 0 17 - N17 0 16) * N17 0 3 / (3 * N17 0 6) - N17 0 4 := by
    rw [ep]
    exact press_rel (hs.fr b10 n17) (rz_ex hz n17) k4 k5
  rw [← hp] at f18
  clear hp ep
  have b12 : ∀ c, c ≠ 0 → M12 c = b c := by
    intro c hc
    rw [e12, sa_ne hc, e11, sa_ne hc, b10 c hc]
  have nN : ∀ j, (j < 15 ∨ 28 < j ∨ j = 15 ∨ j = 19 ∨ (22 ≤ j ∧ j ≤ 27)) → N 0 j = M 0 j := by
    intro j hj
    rw [f18, sa_eq, up_ne (by omega), f17, sa_eq, up_ne (by omega), f16, sa_eq, up_ne (by omega), f14, sa_eq, up_ne (by omega), f13, sa_eq, up_ne (by omega), f12, sa_eq, up_ne (by omega)]
  refine ⟨h0.fr b12 (fun j hj => nN j (by omega)) ?_, ?_, nN⟩
  · unfold IN
    have g16 : N 0 16 = N17 0 16 := by rw [f18, sa_eq, up_ne (by decide)]
    have g17 : N 0 17 = N17 0 17 := by rw [f18, sa_eq, up_ne (by decide)]
    have m4 : M12 0 4 = M10 0 4 := by rw [e12, sa_eq, up_ne (by decide), e11, sa_eq, up_ne (by decide)]
    have m5 : M12 0 5 = M10 0 5 := by rw [e12, sa_eq, up_ne (by decide), e11, sa_eq, up_ne (by decide)]
    rw [nN 15 (by omega), g16, g17, nN 19 (by omega), nN 22 (by omega), nN 23 (by omega), nN 24 (by omega), nN 25 (by omega), nN 26 (by omega), nN 27 (by omega), m4, m5, k4, k5]
    have q6 : M12 0 6 = N 0 18 := by simp [e12, e11, e10, e9, e5, e4, e3, f18, f17, f16, f14, f13, f12, sa_eq, up_get, a4]
    have q8 : M12 0 8 = N 0 20 := by simp [e12, e11, e10, e9, e5, e4, e3, f18, f17, f16, f14, f13, f12, sa_eq, up_get, a6]
    have q9 : M12 0 9 = N 0 21 := by simp [e12, e11, e10, e9, e5, e4, e3, f18, f17, f16, f14, f13, f12, sa_eq, up_get, a7]
    have q15 : M12 0 15 = N 0 28 := by simp [e12, e11, f18, sa_eq, up_get]
    have cl : ∀ j, j = 3 ∨ j = 7 ∨ j = 10 ∨ j = 11 ∨ j = 12 ∨ j = 14 ∨ j = 17 → M12 0 j = b 0 j := by
      intro j hj
      rw [e12, sa_eq, up_ne (by omega), e11, sa_eq, up_ne (by omega), e10, sa_eq, up_ne (by omega), e9, sa_eq, up_ne (by omega), e5, sa_eq, up_ne (by omega), e4, sa_eq, up_ne (by omega), e3, sa_eq, up_ne (by omega)]
    have q13 : M12 0 13 = b 0 13 + 1 := by
      rw [e12, sa_eq, up_eq, e11, sa_eq, up_ne (by decide), e10, sa_eq, up_ne (by decide), e9, sa_eq, up_ne (by decide), e5, sa_eq, up_ne (by decide), e4, sa_eq, up_ne (by decide), e3, sa_eq, up_ne (by decide)]
    rw [q6, q8, q9, q15, q13, cl 3 (by omega), cl 7 (by omega), cl 10 (by omega), cl 11 (by omega), cl 12 (by omega), cl 14 (by omega), cl 17 (by omega), a11, Int32.add_zero]
    exact ⟨a1, rfl, rfl, rfl, a5, rfl, rfl, a8, a9, a10, rfl, a12, a13, rfl⟩
  · rw [e12, sa_eq, up_ne (by decide), e11, sa_eq, up_ne (by decide), e10, sa_eq, up_ne (by decide), e9, sa_eq, up_ne (by decide), e5, sa_eq, up_ne (by decide), e4, sa_eq, up_ne (by decide), e3, sa_eq, up_ne (by decide)]
