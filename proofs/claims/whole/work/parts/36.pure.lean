/-! copies: a bird becomes another; a fresh bird -/
theorem put2_a {o n o2 n2 a : Nat} {u M : St} (h1 : o ≤ a) (h2 : a < o + n) : put2 o n o2 n2 u M a = u (a - o) := by
  unfold put2
  have e : (Nat.ble o a && Nat.blt a (o + n)) = true := by
    rw [Bool.and_eq_true]
    exact ⟨Nat.ble_eq_true_of_le h1, Nat.ble_eq_true_of_le (show a + 1 ≤ o + n from h2)⟩
  rw [e]
  rfl
theorem put2_b {o n o2 n2 a : Nat} {u M : St} (h : a < o ∨ o + n ≤ a) (h1 : o2 ≤ a) (h2 : a < o2 + n2) : put2 o n o2 n2 u M a = u (n + (a - o2)) := by
  unfold put2
  have e : (Nat.ble o a && Nat.blt a (o + n)) = false := by
    rw [Bool.and_eq_false_iff]
    rcases h with h | h
    · exact Or.inl (Bool.eq_false_iff.mpr (fun q => by have := Nat.le_of_ble_eq_true q; omega))
    · exact Or.inr (Bool.eq_false_iff.mpr (fun q => by have : a + 1 ≤ o + n := Nat.le_of_ble_eq_true q; omega))
  have e2 : (Nat.ble o2 a && Nat.blt a (o2 + n2)) = true := by
    rw [Bool.and_eq_true]
    exact ⟨Nat.ble_eq_true_of_le h1, Nat.ble_eq_true_of_le (show a + 1 ≤ o2 + n2 from h2)⟩
  rw [e, e2]
  rfl
theorem put2_out {o n o2 n2 a : Nat} {u M : St} (h : a < o ∨ o + n ≤ a) (h2 : a < o2 ∨ o2 + n2 ≤ a) : put2 o n o2 n2 u M a = M a := by
  unfold put2
  have e : (Nat.ble o a && Nat.blt a (o + n)) = false := by
    rw [Bool.and_eq_false_iff]
    rcases h with h | h
    · exact Or.inl (Bool.eq_false_iff.mpr (fun q => by have := Nat.le_of_ble_eq_true q; omega))
    · exact Or.inr (Bool.eq_false_iff.mpr (fun q => by have : a + 1 ≤ o + n := Nat.le_of_ble_eq_true q; omega))
  have e2 : (Nat.ble o2 a && Nat.blt a (o2 + n2)) = false := by
    rw [Bool.and_eq_false_iff]
    rcases h2 with h | h
    · exact Or.inl (Bool.eq_false_iff.mpr (fun q => by have := Nat.le_of_ble_eq_true q; omega))
    · exact Or.inr (Bool.eq_false_iff.mpr (fun q => by have : a + 1 ≤ o2 + n2 := Nat.le_of_ble_eq_true q; omega))
  rw [e, e2]
  rfl
/-- a row of cells becomes another -/
theorem cbec {n k : Nat} {S z : St} (hn : n < 2 ^ 31) (h1 : (S 2 1).toInt ≤ n) (h0 : 0 ≤ (S 2 1).toInt) (ez : z = xX1_become n k S) : z 0 1 = S 2 1 ∧ (∀ j : Nat, (j : Int) < (S 2 1).toInt → z 1 j = S 3 j) ∧ (∀ c, c ≠ 0 → c ≠ 1 → z c = S c) := by
  unfold xX1_become at ez
  rw [if_neg (by rw [i_lt, nI_toInt hn]; exact h1)] at ez
  simp only [nm_eq] at ez
  refine ⟨by rw [ez, sa_eq, up_eq], fun j hj => ?_, fun c c0 c1 => by rw [ez, sa_ne c0, sa_ne c1]⟩
  rw [ez, sa_ne (by decide), sa_eq]
  have e0 : (0 : Int32).toNatClampNeg = 0 := rfl
  rw [e0, tnc, pk_cpy_in (Nat.zero_le _) (by omega)]
  congr 1
  omega
theorem SET.cp {b b2 : St} {r : Nat → Int32} (h : SET b r) {z S : St} (hS : S 2 = b 1 ∧ S 3 = b 2) (ez : z = xX1_become 15 15 S) (e1 : b2 1 = z 0) (e2 : b2 2 = z 1) : SET b2 r := by
  obtain ⟨s1, s2⟩ := h
  have t : S 2 1 = 15 := by rw [hS.1]; exact s1
  obtain ⟨q1, q2, -⟩ := cbec (n := 15) (k := 15) (by decide) (by rw [t]; decide) (by rw [t]; decide) ez
  refine ⟨by rw [e1, q1, t], fun j hj => ?_⟩
  rw [e2, q2 j (by rw [t, show (15 : Int32).toInt = 15 from rfl]; omega), hS.2]
  exact s2 j hj
theorem hbec {B z : St} {x : Int32} (hx : 0 ≤ x.toInt ∧ x.toInt ≤ 20) (h1 : B 8 1 = x) (h2 : B 10 1 = x) (h3 : B 12 1 = x) (ez : z = xX2_become B) : z 1 1 = x ∧ z 3 1 = x ∧ z 5 1 = x ∧ (∀ j : Nat, (j : Int) < x.toInt → z 2 j = B 9 j ∧ z 4 j = B 11 j ∧ z 6 j = B 13 j) ∧ ∀ c, 7 ≤ c → z c = B c := by
  unfold xX2_become at ez
  obtain ⟨y1, f1, ez⟩ := nm_el ez
  obtain ⟨M2, e2, ez⟩ := nm_el ez
  obtain ⟨y3, f3, ez⟩ := nm_el ez
  obtain ⟨M4, e4, ez⟩ := nm_el ez
  obtain ⟨y5, f5, ez⟩ := nm_el ez
  obtain ⟨M6, e6, ez⟩ := nm_el ez
  have a1 : sh2 1 2 8 B 2 1 = x := h1
  obtain ⟨p1, p2, p3⟩ := cbec (n := 20) (k := 20) (by decide) (by rw [a1]; exact hx.2) (by rw [a1]; exact hx.1) f1
  have m2 : ∀ c, 3 ≤ c → M2 c = B c := by
    intro c hc
    by_cases q : c = 8
    · subst q
      rw [e2, put2_b (by decide) (by decide) (by decide)]
      exact p3 2 (by decide) (by decide)
    · by_cases q2 : c = 9
      · subst q2
        rw [e2, put2_b (by decide) (by decide) (by decide)]
        exact p3 3 (by decide) (by decide)
      · rw [e2, put2_out (by omega) (by omega)]
  have m21 : M2 1 = y1 0 := by rw [e2]; exact put2_a (by decide) (by decide)
  have m22 : M2 2 = y1 1 := by rw [e2]; exact put2_a (by decide) (by decide)
  have a3 : sh2 3 2 10 M2 2 1 = x := by
    show M2 10 1 = x
    rw [m2 10 (by decide)]
    exact h2
  obtain ⟨r1, r2, r3⟩ := cbec (n := 20) (k := 20) (by decide) (by rw [a3]; exact hx.2) (by rw [a3]; exact hx.1) f3
  have m4 : ∀ c, c ≠ 3 → c ≠ 4 → M4 c = M2 c := by
    intro c hc hc2
    by_cases q : c = 10
    · subst q
      rw [e4, put2_b (by decide) (by decide) (by decide)]
      exact r3 2 (by decide) (by decide)
    · by_cases q2 : c = 11
      · subst q2
        rw [e4, put2_b (by decide) (by decide) (by decide)]
        exact r3 3 (by decide) (by decide)
      · rw [e4, put2_out (by omega) (by omega)]
  have m43 : M4 3 = y3 0 := by rw [e4]; exact put2_a (by decide) (by decide)
  have m44 : M4 4 = y3 1 := by rw [e4]; exact put2_a (by decide) (by decide)
  have a5 : sh2 5 2 12 M4 2 1 = x := by
    show M4 12 1 = x
    rw [m4 12 (by decide) (by decide), m2 12 (by decide)]
    exact h3
  obtain ⟨u1, u2, u3⟩ := cbec (n := 20) (k := 20) (by decide) (by rw [a5]; exact hx.2) (by rw [a5]; exact hx.1) f5
  have m6 : ∀ c, c ≠ 5 → c ≠ 6 → M6 c = M4 c := by
    intro c hc hc2
    by_cases q : c = 12
    · subst q
      rw [e6, put2_b (by decide) (by decide) (by decide)]
      exact u3 2 (by decide) (by decide)
    · by_cases q2 : c = 13
      · subst q2
        rw [e6, put2_b (by decide) (by decide) (by decide)]
        exact u3 3 (by decide) (by decide)
      · rw [e6, put2_out (by omega) (by omega)]
  have m65 : M6 5 = y5 0 := by rw [e6]; exact put2_a (by decide) (by decide)
  have m66 : M6 6 = y5 1 := by rw [e6]; exact put2_a (by decide) (by decide)
  rw [ez]
  refine ⟨?_, ?_, ?_, fun j hj => ⟨?_, ?_, ?_⟩, fun c hc => ?_⟩
  · rw [m6 1 (by decide) (by decide), m4 1 (by decide) (by decide), m21, p1, a1]
  · rw [m6 3 (by decide) (by decide), m43, r1, a3]
  · rw [m65, u1, a5]
  · rw [m6 2 (by decide) (by decide), m4 2 (by decide) (by decide), m22]
    exact p2 j (by rw [a1]; exact hj)
  · rw [m6 4 (by decide) (by decide), m44, r2 j (by rw [a3]; exact hj)]
    show M2 11 j = B 11 j
    rw [m2 11 (by decide)]
  · rw [m66, u2 j (by rw [a5]; exact hj)]
    show M4 13 j = B 13 j
    rw [m4 13 (by decide) (by decide), m2 13 (by decide)]
  · rw [m6 c (by omega) (by omega), m4 c (by omega) (by omega), m2 c (by omega)]
/-- the first bird of two becomes the second -/
theorem become_rel {B z : St} {r : Nat → Int32} (h : BE 0 (sh 12 B) r) (hz : rz r) (ez : z = xX0_become B) : BE 0 z r ∧ z 0 16 = B 12 16 ∧ ∀ c, 12 ≤ c → z c = B c := by
  obtain ⟨hset, hin, ⟨k1, k2, k3, k4⟩, ⟨d1, d2⟩⟩ := h
  obtain ⟨hz1, hz2, -⟩ := hz
  unfold xX0_become at ez
  obtain ⟨y1, f1, ez⟩ := nm_el ez
  obtain ⟨M2, e2, ez⟩ := nm_el ez
  obtain ⟨y3, f3, ez⟩ := nm_el ez
  obtain ⟨M4, e4, ez⟩ := nm_el ez
  obtain ⟨y5, f5, ez⟩ := nm_el ez
  obtain ⟨M6, e6, ez⟩ := nm_el ez
  obtain ⟨M7, e7, ez⟩ := nm_el ez
  obtain ⟨M8, e8, ez⟩ := nm_el ez
  obtain ⟨M9, e9, ez⟩ := nm_el ez
  obtain ⟨M10, e10, ez⟩ := nm_el ez
  obtain ⟨M11, e11, ez⟩ := nm_el ez
  obtain ⟨M12, e12, ez⟩ := nm_el ez
  obtain ⟨M13, e13, ez⟩ := nm_el ez
  obtain ⟨M14, e14, ez⟩ := nm_el ez
  obtain ⟨M15, e15, ez⟩ := nm_el ez
  obtain ⟨M16, e16, ez⟩ := nm_el ez
  obtain ⟨M17, e17, ez⟩ := nm_el ez
  obtain ⟨M18, e18, ez⟩ := nm_el ez
  obtain ⟨M19, e19, ez⟩ := nm_el ez
  obtain ⟨M20, e20, ez⟩ := nm_el ez
  obtain ⟨M21, e21, ez⟩ := nm_el ez
  have a1 : sh2 1 2 13 B 2 1 = 15 := hset.1
  obtain ⟨p1, p2, p3⟩ := cbec (n := 15) (k := 15) (by decide) (by rw [a1]; decide) (by rw [a1]; decide) f1
  have m2 : ∀ c, c ≠ 1 → c ≠ 2 → M2 c = B c := by
    intro c hc hc2
    by_cases q : c = 13
    · subst q
      rw [e2, put2_b (by decide) (by decide) (by decide)]
      exact p3 2 (by decide) (by decide)
    · by_cases q2 : c = 14
      · subst q2
        rw [e2, put2_b (by decide) (by decide) (by decide)]
        exact p3 3 (by decide) (by decide)
      · rw [e2, put2_out (by omega) (by omega)]
  have m21 : M2 1 = y1 0 := by rw [e2]; exact put2_a (by decide) (by decide)
  have m22 : M2 2 = y1 1 := by rw [e2]; exact put2_a (by decide) (by decide)
  have g8 : sh2 3 7 15 M2 8 1 = r 150 := by
    show M2 16 1 = r 150
    rw [m2 16 (by decide) (by decide)]; exact k1
  have g10 : sh2 3 7 15 M2 10 1 = r 150 := by
    show M2 18 1 = r 150
    rw [m2 18 (by decide) (by decide)]; exact k2
  have g12 : sh2 3 7 15 M2 12 1 = r 150 := by
    show M2 20 1 = r 150
    rw [m2 20 (by decide) (by decide)]; exact k3
  obtain ⟨t1, t2, t3, t4, t5⟩ := hbec hz2 g8 g10 g12 f3
  have m4 : ∀ c, c < 3 ∨ 10 ≤ c → M4 c = M2 c := by
    intro c hc
    by_cases q : 15 ≤ c ∧ c < 22
    · rw [e4, put2_b (by omega) (by omega) (by omega), t5 _ (by omega)]
      unfold sh2
      have e : Nat.blt (7 + (c - 15)) 7 = false := Bool.eq_false_iff.mpr (fun q => by have : 7 + (c - 15) + 1 ≤ 7 := Nat.le_of_ble_eq_true q; omega)
      rw [e]
      show M2 (15 + (7 + (c - 15) - 7)) = M2 c
      congr 1
      omega
    · rw [e4, put2_out (by omega) (by omega)]
  have m4i : ∀ c, 3 ≤ c → c < 10 → M4 c = y3 (c - 3) := fun c h1 h2 => by rw [e4, put2_a (by omega) (by omega)]
  have a5 : sh2 10 2 22 M4 2 1 = r 89 := by
    show M4 22 1 = r 89
    rw [m4 22 (by decide), m2 22 (by decide) (by decide)]; exact d1
  obtain ⟨u1, u2, u3⟩ := cbec (n := 60) (k := 60) (by decide) (by rw [a5]; exact hz1.2) (by rw [a5]; exact hz1.1) f5
  have m6 : ∀ c, c ≠ 10 → c ≠ 11 → M6 c = M4 c := by
    intro c hc hc2
    by_cases q : c = 22
    · subst q
      rw [e6, put2_b (by decide) (by decide) (by decide)]
      exact u3 2 (by decide) (by decide)
    · by_cases q2 : c = 23
      · subst q2
        rw [e6, put2_b (by decide) (by decide) (by decide)]
        exact u3 3 (by decide) (by decide)
      · rw [e6, put2_out (by omega) (by omega)]
  have m610 : M6 10 = y5 0 := by rw [e6]; exact put2_a (by decide) (by decide)
  have m611 : M6 11 = y5 1 := by rw [e6]; exact put2_a (by decide) (by decide)
  have m12 : ∀ c, 12 ≤ c → M6 c = B c := fun c hc => by rw [m6 c (by omega) (by omega), m4 c (by omega), m2 c (by omega) (by omega)]
  have n6 : M6 12 = B 12 := m12 12 (by decide)
  have n7 : M7 12 = B 12 := by rw [e7, sa_ne (by decide), n6]
  have n8 : M8 12 = B 12 := by rw [e8, sa_ne (by decide), n7]
  have n9 : M9 12 = B 12 := by rw [e9, sa_ne (by decide), n8]
  have n10 : M10 12 = B 12 := by rw [e10, sa_ne (by decide), n9]
  have n11 : M11 12 = B 12 := by rw [e11, sa_ne (by decide), n10]
  have n12 : M12 12 = B 12 := by rw [e12, sa_ne (by decide), n11]
  have n13 : M13 12 = B 12 := by rw [e13, sa_ne (by decide), n12]
  have n14 : M14 12 = B 12 := by rw [e14, sa_ne (by decide), n13]
  have n15 : M15 12 = B 12 := by rw [e15, sa_ne (by decide), n14]
  have n16 : M16 12 = B 12 := by rw [e16, sa_ne (by decide), n15]
  have n17 : M17 12 = B 12 := by rw [e17, sa_ne (by decide), n16]
  have n18 : M18 12 = B 12 := by rw [e18, sa_ne (by decide), n17]
  have n19 : M19 12 = B 12 := by rw [e19, sa_ne (by decide), n18]
  have n20 : M20 12 = B 12 := by rw [e20, sa_ne (by decide), n19]
  have n21 : M21 12 = B 12 := by rw [e21, sa_ne (by decide), n20]
  have zc : ∀ c, c ≠ 0 → z c = M6 c := fun c hc => by rw [ez, e21, sa_ne hc, e20, sa_ne hc, e19, sa_ne hc, e18, sa_ne hc, e17, sa_ne hc, e16, sa_ne hc, e15, sa_ne hc, e14, sa_ne hc, e13, sa_ne hc, e12, sa_ne hc, e11, sa_ne hc, e10, sa_ne hc, e9, sa_ne hc, e8, sa_ne hc, e7, sa_ne hc]
  have y3' : z 0 3 = B 12 3 := by rw [ez, e21, sa_eq, up_ne (by decide), e20, sa_eq, up_ne (by decide), e19, sa_eq, up_ne (by decide), e18, sa_eq, up_ne (by decide), e17, sa_eq, up_ne (by decide), e16, sa_eq, up_ne (by decide), e15, sa_eq, up_ne (by decide), e14, sa_eq, up_ne (by decide), e13, sa_eq, up_ne (by decide), e12, sa_eq, up_ne (by decide), e11, sa_eq, up_ne (by decide), e10, sa_eq, up_ne (by decide), e9, sa_eq, up_ne (by decide), e8, sa_eq, up_ne (by decide), e7, sa_eq, up_eq, n6]
  have y4' : z 0 4 = B 12 4 := by rw [ez, e21, sa_eq, up_ne (by decide), e20, sa_eq, up_ne (by decide), e19, sa_eq, up_ne (by decide), e18, sa_eq, up_ne (by decide), e17, sa_eq, up_ne (by decide), e16, sa_eq, up_ne (by decide), e15, sa_eq, up_ne (by decide), e14, sa_eq, up_ne (by decide), e13, sa_eq, up_ne (by decide), e12, sa_eq, up_ne (by decide), e11, sa_eq, up_ne (by decide), e10, sa_eq, up_ne (by decide), e9, sa_eq, up_ne (by decide), e8, sa_eq, up_eq, n7]
  have y5' : z 0 5 = B 12 5 := by rw [ez, e21, sa_eq, up_ne (by decide), e20, sa_eq, up_ne (by decide), e19, sa_eq, up_ne (by decide), e18, sa_eq, up_ne (by decide), e17, sa_eq, up_ne (by decide), e16, sa_eq, up_ne (by decide), e15, sa_eq, up_ne (by decide), e14, sa_eq, up_ne (by decide), e13, sa_eq, up_ne (by decide), e12, sa_eq, up_ne (by decide), e11, sa_eq, up_ne (by decide), e10, sa_eq, up_ne (by decide), e9, sa_eq, up_eq, n8]
  have y6' : z 0 6 = B 12 6 := by rw [ez, e21, sa_eq, up_ne (by decide), e20, sa_eq, up_ne (by decide), e19, sa_eq, up_ne (by decide), e18, sa_eq, up_ne (by decide), e17, sa_eq, up_ne (by decide), e16, sa_eq, up_ne (by decide), e15, sa_eq, up_ne (by decide), e14, sa_eq, up_ne (by decide), e13, sa_eq, up_ne (by decide), e12, sa_eq, up_ne (by decide), e11, sa_eq, up_ne (by decide), e10, sa_eq, up_eq, n9]
  have y7' : z 0 7 = B 12 7 := by rw [ez, e21, sa_eq, up_ne (by decide), e20, sa_eq, up_ne (by decide), e19, sa_eq, up_ne (by decide), e18, sa_eq, up_ne (by decide), e17, sa_eq, up_ne (by decide), e16, sa_eq, up_ne (by decide), e15, sa_eq, up_ne (by decide), e14, sa_eq, up_ne (by decide), e13, sa_eq, up_ne (by decide), e12, sa_eq, up_ne (by decide), e11, sa_eq, up_eq, n10]
  have y8' : z 0 8 = B 12 8 := by rw [ez, e21, sa_eq, up_ne (by decide), e20, sa_eq, up_ne (by decide), e19, sa_eq, up_ne (by decide), e18, sa_eq, up_ne (by decide), e17, sa_eq, up_ne (by decide), e16, sa_eq, up_ne (by decide), e15, sa_eq, up_ne (by decide), e14, sa_eq, up_ne (by decide), e13, sa_eq, up_ne (by decide), e12, sa_eq, up_eq, n11]
  have y9' : z 0 9 = B 12 9 := by rw [ez, e21, sa_eq, up_ne (by decide), e20, sa_eq, up_ne (by decide), e19, sa_eq, up_ne (by decide), e18, sa_eq, up_ne (by decide), e17, sa_eq, up_ne (by decide), e16, sa_eq, up_ne (by decide), e15, sa_eq, up_ne (by decide), e14, sa_eq, up_ne (by decide), e13, sa_eq, up_eq, n12]
  have y10' : z 0 10 = B 12 10 := by rw [ez, e21, sa_eq, up_ne (by decide), e20, sa_eq, up_ne (by decide), e19, sa_eq, up_ne (by decide), e18, sa_eq, up_ne (by decide), e17, sa_eq, up_ne (by decide), e16, sa_eq, up_ne (by decide), e15, sa_eq, up_ne (by decide), e14, sa_eq, up_eq, n13]
  have y11' : z 0 11 = B 12 11 := by rw [ez, e21, sa_eq, up_ne (by decide), e20, sa_eq, up_ne (by decide), e19, sa_eq, up_ne (by decide), e18, sa_eq, up_ne (by decide), e17, sa_eq, up_ne (by decide), e16, sa_eq, up_ne (by decide), e15, sa_eq, up_eq, n14]
  have y12' : z 0 12 = B 12 12 := by rw [ez, e21, sa_eq, up_ne (by decide), e20, sa_eq, up_ne (by decide), e19, sa_eq, up_ne (by decide), e18, sa_eq, up_ne (by decide), e17, sa_eq, up_ne (by decide), e16, sa_eq, up_eq, n15]
  have y13' : z 0 13 = B 12 13 := by rw [ez, e21, sa_eq, up_ne (by decide), e20, sa_eq, up_ne (by decide), e19, sa_eq, up_ne (by decide), e18, sa_eq, up_ne (by decide), e17, sa_eq, up_eq, n16]
  have y14' : z 0 14 = B 12 14 := by rw [ez, e21, sa_eq, up_ne (by decide), e20, sa_eq, up_ne (by decide), e19, sa_eq, up_ne (by decide), e18, sa_eq, up_eq, n17]
  have y15' : z 0 15 = B 12 15 := by rw [ez, e21, sa_eq, up_ne (by decide), e20, sa_eq, up_ne (by decide), e19, sa_eq, up_eq, n18]
  have y16' : z 0 16 = B 12 16 := by rw [ez, e21, sa_eq, up_ne (by decide), e20, sa_eq, up_eq, n19]
  have y17' : z 0 17 = B 12 17 := by rw [ez, e21, sa_eq, up_eq, n20]
  refine ⟨⟨⟨?_, fun j hj => ?_⟩, ?_, ⟨?_, ?_, ?_, fun j hj => ?_⟩, ⟨?_, fun j hj => ?_⟩⟩, y16', fun c hc => by rw [zc c (by omega), m12 c hc]⟩
  · rw [zc 1 (by decide), m6 1 (by decide) (by decide), m4 1 (by decide), m21, p1, a1]
  · rw [zc 2 (by decide), m6 2 (by decide) (by decide), m4 2 (by decide), m22, p2 j (by rw [a1, show (15 : Int32).toInt = 15 from rfl]; omega)]
    exact hset.2 j hj
  · unfold IN
    rw [y3', y4', y5', y6', y7', y8', y9', y10', y11', y12', y13', y14', y17', y15']
    exact hin
  · rw [zc 4 (by decide), m6 4 (by decide) (by decide), m4i 4 (by decide) (by decide)]; exact t1
  · rw [zc 6 (by decide), m6 6 (by decide) (by decide), m4i 6 (by decide) (by decide)]; exact t2
  · rw [zc 8 (by decide), m6 8 (by decide) (by decide), m4i 8 (by decide) (by decide)]; exact t3
  · obtain ⟨w1, w2, w3⟩ := t4 j hj
    obtain ⟨v1, v2, v3⟩ := k4 j hj
    have n17 : M2 17 = B 17 := m2 17 (by decide) (by decide)
    have n19 : M2 19 = B 19 := m2 19 (by decide) (by decide)
    have n21 : M2 21 = B 21 := m2 21 (by decide) (by decide)
    refine ⟨?_, ?_, ?_⟩
    · rw [zc 5 (by decide), m6 5 (by decide) (by decide), m4i 5 (by decide) (by decide)]
      refine w1.trans ?_
      show M2 17 j = _
      rw [n17]; exact v1
    · rw [zc 7 (by decide), m6 7 (by decide) (by decide), m4i 7 (by decide) (by decide)]
      refine w2.trans ?_
      show M2 19 j = _
      rw [n19]; exact v2
    · rw [zc 9 (by decide), m6 9 (by decide) (by decide), m4i 9 (by decide) (by decide)]
      refine w3.trans ?_
      show M2 21 j = _
      rw [n21]; exact v3
  · rw [zc 10 (by decide), m610, u1, a5]
  · rw [zc 11 (by decide), m611, u2 j (by rw [a5]; exact hj)]
    show M4 23 j = r (29 + j)
    rw [m4 23 (by decide), m2 23 (by decide) (by decide)]
    exact d2 j hj
/-- what a fresh bird's row is, of a row with the settings and the glass -/
def FRS (r q : Nat → Int32) : Prop := (∀ j, j < 16 → q j = r j) ∧ q 16 = r 11 ∧ q 17 = r 11 ∧ q 18 = 500 ∧ (∀ j, 19 ≤ j → j ≤ 28 → q j = 0) ∧ q 89 = 0 ∧ q 150 = 0
theorem hatch_rel {B z : St} {r q : Nat → Int32} {p1 v : Int32} {k : Nat} (hs : SET (sh 12 B) r) (hg : B 12 3 = r 15) (h4 : 0 ≤ (B 4 1).toInt) (h6 : 0 ≤ (B 6 1).toInt) (h8 : 0 ≤ (B 8 1).toInt) (hp : p1 = nI k) (hk : k < 15) (hq : FRS (up r k v) q) (ez : z = xX0_hatch B p1 v) : BE 0 z q ∧ z 0 16 = -1 ∧ ∀ c, 12 ≤ c → z c = B c := by
  unfold xX0_hatch at ez
  obtain ⟨y1, f1, ez⟩ := nm_el ez
  obtain ⟨M2, e2, ez⟩ := nm_el ez
  obtain ⟨y3, f3, ez⟩ := nm_el ez
  obtain ⟨M4, e4, ez⟩ := nm_el ez
  obtain ⟨y5, f5, ez⟩ := nm_el ez
  obtain ⟨M6, e6, ez⟩ := nm_el ez
  obtain ⟨y7, f7, ez⟩ := nm_el ez
  obtain ⟨M8, e8, ez⟩ := nm_el ez
  obtain ⟨M9, e9, ez⟩ := nm_el ez
  obtain ⟨M10, e10, ez⟩ := nm_el ez
  obtain ⟨M11, e11, ez⟩ := nm_el ez
  obtain ⟨M12, e12, ez⟩ := nm_el ez
  obtain ⟨M13, e13, ez⟩ := nm_el ez
  obtain ⟨M14, e14, ez⟩ := nm_el ez
  obtain ⟨M15, e15, ez⟩ := nm_el ez
  obtain ⟨M16, e16, ez⟩ := nm_el ez
  obtain ⟨M17, e17, ez⟩ := nm_el ez
  obtain ⟨M18, e18, ez⟩ := nm_el ez
  obtain ⟨M19, e19, ez⟩ := nm_el ez
  obtain ⟨M20, e20, ez⟩ := nm_el ez
  obtain ⟨y21, f21, ez⟩ := nm_el ez
  obtain ⟨M22, e22, ez⟩ := nm_el ez
  have a1 : sh2 1 2 13 B 2 1 = 15 := hs.1
  obtain ⟨c1, c2, c3⟩ := cbec (n := 15) (k := 15) (by decide) (by rw [a1]; decide) (by rw [a1]; decide) f1
  have m2 : ∀ c, c ≠ 1 → c ≠ 2 → M2 c = B c := by
    intro c hc hc2
    by_cases q : c = 13
    · subst q
      rw [e2, put2_b (by decide) (by decide) (by decide)]
      exact c3 2 (by decide) (by decide)
    · by_cases q2 : c = 14
      · subst q2
        rw [e2, put2_b (by decide) (by decide) (by decide)]
        exact c3 3 (by decide) (by decide)
      · rw [e2, put2_out (by omega) (by omega)]
  have m21 : M2 1 = y1 0 := by rw [e2]; exact put2_a (by decide) (by decide)
  have m22 : M2 2 = y1 1 := by rw [e2]; exact put2_a (by decide) (by decide)
  have s2 : SET M2 r := by
    refine ⟨by rw [m21, c1, a1], fun j hj => ?_⟩
    rw [m22, c2 j (by rw [a1, show (15 : Int32).toInt = 15 from rfl]; omega)]
    exact hs.2 j hj
  have pk : p1.toInt = k := by rw [hp]; exact nI_toInt (by omega)
  have pn : p1.toNatClampNeg = k := by rw [tnc, pk]; rfl
  have y30 : y3 = sa (sh 1 M2) 1 (up (sh 1 M2 1) k v) := by
    unfold xX1_put at f3
    have e1 : sh 1 M2 0 1 = 15 := s2.1
    rw [if_neg (by rw [i_lt, z32, pk]; omega), e1, if_neg (by rw [i_le, pk, show (15 : Int32).toInt = 15 from rfl]; omega), nm_eq, pn] at f3
    exact f3
  have m4 : ∀ c, c ≠ 2 → M4 c = M2 c := by
    intro c hc
    by_cases q : c = 1
    · subst q
      rw [e4]
      refine (put_in (by decide) (by decide)).trans ?_
      rw [y30]
      exact sa_ne (by decide)
    · rw [e4, put_out (by omega)]
  have m42 : M4 2 = up (M2 2) k v := by
    rw [e4]
    refine (put_in (by decide) (by decide)).trans ?_
    rw [y30]
    exact sa_eq _ _ _
  have s4 : SET M4 (up r k v) := by
    refine ⟨by rw [m4 1 (by decide)]; exact s2.1, fun j hj => ?_⟩
    rw [m42, up_get, up_get, s2.2 j hj]
  have cut : ∀ (S y : St), 0 ≤ (S 0 1).toInt → y = xX1_cutTo 20 S 0 → y 0 1 = 0 ∧ ∀ c, c ≠ 0 → y c = S c := by
    intro S y h e
    unfold xX1_cutTo at e
    rw [if_neg (by decide)] at e
    by_cases c : S 0 1 ≤ 0
    · rw [if_pos c] at e
      have c2 := Int32.le_iff_toInt_le.mp c
      rw [z32] at c2
      rw [e]
      exact ⟨Int32.toInt_inj.mp (by rw [z32]; omega), fun _ _ => rfl⟩
    · rw [if_neg c, nm_eq] at e
      rw [e]
      exact ⟨by rw [sa_eq, up_eq], fun c hc => sa_ne hc⟩
  have h5 : M6 4 1 = 0 ∧ M6 6 1 = 0 ∧ M6 8 1 = 0 ∧ ∀ c, (c < 3 ∨ 10 ≤ c) → M6 c = M4 c := by
    unfold xX2_cutTo at f5
    obtain ⟨u1, g1, f5⟩ := nm_el f5
    obtain ⟨N2, g2, f5⟩ := nm_el f5
    obtain ⟨u3, g3, f5⟩ := nm_el f5
    obtain ⟨N4, g4, f5⟩ := nm_el f5
    obtain ⟨u5, g5, f5⟩ := nm_el f5
    obtain ⟨N6, g6, f5⟩ := nm_el f5
    have w1 := cut _ _ (by show 0 ≤ (M4 4 1).toInt; rw [m4 4 (by decide), m2 4 (by decide) (by decide)]; exact h4) g1
    have n2 : ∀ c, c ≠ 1 → c ≠ 2 → N2 c = sh 3 M4 c := fun c hc hc2 => by rw [g2, put_out (by omega)]
    have n21 : N2 1 = u1 0 := by rw [g2]; exact put_in (by decide) (by decide)
    have w3 := cut _ _ (by show 0 ≤ (N2 3 1).toInt; rw [n2 3 (by decide) (by decide)]; show 0 ≤ (M4 6 1).toInt; rw [m4 6 (by decide), m2 6 (by decide) (by decide)]; exact h6) g3
    have n4 : ∀ c, c ≠ 3 → c ≠ 4 → N4 c = N2 c := fun c hc hc2 => by rw [g4, put_out (by omega)]
    have n43 : N4 3 = u3 0 := by rw [g4]; exact put_in (by decide) (by decide)
    have w5 := cut _ _ (by show 0 ≤ (N4 5 1).toInt; rw [n4 5 (by decide) (by decide), n2 5 (by decide) (by decide)]; show 0 ≤ (M4 8 1).toInt; rw [m4 8 (by decide), m2 8 (by decide) (by decide)]; exact h8) g5
    have n6 : ∀ c, c ≠ 5 → c ≠ 6 → N6 c = N4 c := fun c hc hc2 => by rw [g6, put_out (by omega)]
    have n65 : N6 5 = u5 0 := by rw [g6]; exact put_in (by decide) (by decide)
    rw [f5] at e6
    refine ⟨?_, ?_, ?_, fun c hc => by rw [e6, put_out (by omega)]⟩
    · have t : M6 4 = N6 1 := by rw [e6]; exact put_in (by decide) (by decide)
      rw [t, n6 1 (by decide) (by decide), n4 1 (by decide) (by decide), n21]; exact w1.1
    · have t : M6 6 = N6 3 := by rw [e6]; exact put_in (by decide) (by decide)
      rw [t, n6 3 (by decide) (by decide), n43]; exact w3.1
    · have t : M6 8 = N6 5 := by rw [e6]; exact put_in (by decide) (by decide)
      rw [t, n65]; exact w5.1
  obtain ⟨i4, i6, i8, i0⟩ := h5
  have m8 : ∀ c, c ≠ 10 → c ≠ 11 → M8 c = M6 c := fun c hc hc2 => by rw [e8, put_out (by omega)]
  have m810 : M8 10 1 = 0 := by
    have t : M8 10 = y7 0 := by rw [e8]; exact put_in (by decide) (by decide)
    unfold xX1_clear at f7
    rw [nm_eq] at f7
    rw [t, f7, sa_eq, up_eq]
  have s8 : SET M8 (up r k v) := by
    refine ⟨?_, fun j hj => ?_⟩
    · rw [m8 1 (by decide) (by decide), i0 1 (by decide)]; exact s4.1
    · rw [m8 2 (by decide) (by decide), i0 2 (by decide)]; exact s4.2 j hj
  have g12 : M8 12 = B 12 := by rw [m8 12 (by decide) (by decide), i0 12 (by decide), m4 12 (by decide), m2 12 (by decide) (by decide)]
  have cc9 : ∀ c, c ≠ 0 → M9 c = M8 c := fun c hc => by rw [e9, sa_ne hc]
  have s9 : SET M9 (up r k v) := s8.fr cc9 (fun _ _ => rfl)
  have cc10 : ∀ c, c ≠ 0 → M10 c = M8 c := fun c hc => by rw [e10, sa_ne hc, cc9 c hc]
  have s10 : SET M10 (up r k v) := s8.fr cc10 (fun _ _ => rfl)
  rw [at15 s9 11 11 rfl (by decide)] at e10
  rw [at15 s10 11 11 rfl (by decide)] at e11
  have cc20 : ∀ c, c ≠ 0 → M20 c = M8 c := fun c hc => by rw [e20, sa_ne hc, e19, sa_ne hc, e18, sa_ne hc, e17, sa_ne hc, e16, sa_ne hc, e15, sa_ne hc, e14, sa_ne hc, e13, sa_ne hc, e12, sa_ne hc, e11, sa_ne hc, cc10 c hc]
  have q3 : M20 0 3 = B 12 3 := by rw [e20, sa_eq, up_ne (by decide), e19, sa_eq, up_ne (by decide), e18, sa_eq, up_ne (by decide), e17, sa_eq, up_ne (by decide), e16, sa_eq, up_ne (by decide), e15, sa_eq, up_ne (by decide), e14, sa_eq, up_ne (by decide), e13, sa_eq, up_ne (by decide), e12, sa_eq, up_ne (by decide), e11, sa_eq, up_ne (by decide), e10, sa_eq, up_ne (by decide), e9, sa_eq, up_eq, g12]
  have q4 : M20 0 4 = up r k v 11 := by rw [e20, sa_eq, up_ne (by decide), e19, sa_eq, up_ne (by decide), e18, sa_eq, up_ne (by decide), e17, sa_eq, up_ne (by decide), e16, sa_eq, up_ne (by decide), e15, sa_eq, up_ne (by decide), e14, sa_eq, up_ne (by decide), e13, sa_eq, up_ne (by decide), e12, sa_eq, up_ne (by decide), e11, sa_eq, up_ne (by decide), e10, sa_eq, up_eq]
  have q5 : M20 0 5 = up r k v 11 := by rw [e20, sa_eq, up_ne (by decide), e19, sa_eq, up_ne (by decide), e18, sa_eq, up_ne (by decide), e17, sa_eq, up_ne (by decide), e16, sa_eq, up_ne (by decide), e15, sa_eq, up_ne (by decide), e14, sa_eq, up_ne (by decide), e13, sa_eq, up_ne (by decide), e12, sa_eq, up_ne (by decide), e11, sa_eq, up_eq]
  have q6 : M20 0 6 = 500 := by rw [e20, sa_eq, up_ne (by decide), e19, sa_eq, up_ne (by decide), e18, sa_eq, up_ne (by decide), e17, sa_eq, up_ne (by decide), e16, sa_eq, up_ne (by decide), e15, sa_eq, up_ne (by decide), e14, sa_eq, up_ne (by decide), e13, sa_eq, up_ne (by decide), e12, sa_eq, up_eq]
  have q7 : M20 0 7 = 0 := by rw [e20, sa_eq, up_ne (by decide), e19, sa_eq, up_ne (by decide), e18, sa_eq, up_ne (by decide), e17, sa_eq, up_ne (by decide), e16, sa_eq, up_ne (by decide), e15, sa_eq, up_ne (by decide), e14, sa_eq, up_ne (by decide), e13, sa_eq, up_eq]
  have q8 : M20 0 8 = 0 := by rw [e20, sa_eq, up_ne (by decide), e19, sa_eq, up_ne (by decide), e18, sa_eq, up_ne (by decide), e17, sa_eq, up_ne (by decide), e16, sa_eq, up_ne (by decide), e15, sa_eq, up_ne (by decide), e14, sa_eq, up_eq]
  have q9 : M20 0 9 = 0 := by rw [e20, sa_eq, up_ne (by decide), e19, sa_eq, up_ne (by decide), e18, sa_eq, up_ne (by decide), e17, sa_eq, up_ne (by decide), e16, sa_eq, up_ne (by decide), e15, sa_eq, up_eq]
  have q10 : M20 0 10 = 0 := by rw [e20, sa_eq, up_ne (by decide), e19, sa_eq, up_ne (by decide), e18, sa_eq, up_ne (by decide), e17, sa_eq, up_ne (by decide), e16, sa_eq, up_eq]
  have q11 : M20 0 11 = 0 := by rw [e20, sa_eq, up_ne (by decide), e19, sa_eq, up_ne (by decide), e18, sa_eq, up_ne (by decide), e17, sa_eq, up_eq]
  have q15 : M20 0 15 = 0 := by rw [e20, sa_eq, up_ne (by decide), e19, sa_eq, up_ne (by decide), e18, sa_eq, up_eq]
  have q16 : M20 0 16 = -1 := by rw [e20, sa_eq, up_ne (by decide), e19, sa_eq, up_eq]
  have q17 : M20 0 17 = 0 := by rw [e20, sa_eq, up_eq]
  rw [turn_eq] at f21
  have y0 : y21 0 = up (up (up (M20 0) 12 0) 13 0) 14 0 := by
    rw [f21, sa_eq, if_neg (by decide)]
    rfl
  have yc : ∀ c, c ≠ 0 → y21 c = M20 c := by
    intro c hc
    rw [f21, sa_ne hc]
    unfold sh
    rw [Nat.zero_add]
  have zz : ∀ c, z c = y21 c ∨ (12 ≤ c ∧ z c = M20 c) := by
    intro c
    rw [ez, e22]
    by_cases q : c < 12
    · exact Or.inl (put_in (Nat.zero_le _) (by omega))
    · exact Or.inr ⟨by omega, put_out (by omega)⟩
  have z00 : z 0 = up (up (up (M20 0) 12 0) 13 0) 14 0 := by
    rcases zz 0 with h | h
    · rw [h, y0]
    · exact absurd h.1 (by decide)
  have zc : ∀ c, c ≠ 0 → z c = M8 c := by
    intro c hc
    rcases zz c with h | h
    · rw [h, yc c hc, cc20 c hc]
    · rw [h.2, cc20 c hc]
  obtain ⟨w1, w2, w3, w4, w5, w6, w7⟩ := hq
  refine ⟨⟨⟨?_, fun j hj => ?_⟩, ?_, ⟨?_, ?_, ?_, fun j hj => ?_⟩, ⟨?_, fun j hj => ?_⟩⟩, ?_, fun c hc => ?_⟩
  · rw [zc 1 (by decide)]; exact s8.1
  · rw [zc 2 (by decide), w1 j (by omega)]; exact s8.2 j hj
  · have w15 : q 15 = r 15 := by rw [w1 15 (by decide), up_ne (by omega)]
    have u3 : z 0 3 = r 15 := by rw [z00, up_ne (by decide), up_ne (by decide), up_ne (by decide), q3, hg]
    have u4 : z 0 4 = up r k v 11 := by rw [z00, up_ne (by decide), up_ne (by decide), up_ne (by decide), q4]
    have u5 : z 0 5 = up r k v 11 := by rw [z00, up_ne (by decide), up_ne (by decide), up_ne (by decide), q5]
    have u6 : z 0 6 = 500 := by rw [z00, up_ne (by decide), up_ne (by decide), up_ne (by decide), q6]
    have u7 : z 0 7 = 0 := by rw [z00, up_ne (by decide), up_ne (by decide), up_ne (by decide), q7]
    have u8 : z 0 8 = 0 := by rw [z00, up_ne (by decide), up_ne (by decide), up_ne (by decide), q8]
    have u9 : z 0 9 = 0 := by rw [z00, up_ne (by decide), up_ne (by decide), up_ne (by decide), q9]
    have u10 : z 0 10 = 0 := by rw [z00, up_ne (by decide), up_ne (by decide), up_ne (by decide), q10]
    have u11 : z 0 11 = 0 := by rw [z00, up_ne (by decide), up_ne (by decide), up_ne (by decide), q11]
    have u15 : z 0 15 = 0 := by rw [z00, up_ne (by decide), up_ne (by decide), up_ne (by decide), q15]
    have u17 : z 0 17 = 0 := by rw [z00, up_ne (by decide), up_ne (by decide), up_ne (by decide), q17]
    have u12 : z 0 12 = 0 := by rw [z00, up_ne (by decide), up_ne (by decide), up_eq]
    have u13 : z 0 13 = 0 := by rw [z00, up_ne (by decide), up_eq]
    have u14 : z 0 14 = 0 := by rw [z00, up_eq]
    unfold IN
    rw [u3, u4, u5, u6, u7, u8, u9, u10, u11, u12, u13, u14, u17, u15, w15, w2, w3, w4, w5 19 (by decide) (by decide), w5 20 (by decide) (by decide), w5 21 (by decide) (by decide), w5 22 (by decide) (by decide), w5 23 (by decide) (by decide), w5 24 (by decide) (by decide), w5 25 (by decide) (by decide), w5 26 (by decide) (by decide), w5 27 (by decide) (by decide), w5 28 (by decide) (by decide)]
    exact ⟨rfl, rfl, rfl, rfl, rfl, rfl, rfl, rfl, rfl, rfl, rfl, rfl, rfl, rfl⟩
  · rw [zc 4 (by decide), m8 4 (by decide) (by decide), i4, w7]
  · rw [zc 6 (by decide), m8 6 (by decide) (by decide), i6, w7]
  · rw [zc 8 (by decide), m8 8 (by decide) (by decide), i8, w7]
  · rw [w7, z32] at hj
    omega
  · rw [zc 10 (by decide), m810, w6]
  · rw [w6, z32] at hj
    omega
  · rw [z00, up_ne (by decide), up_ne (by decide), up_ne (by decide)]
    exact q16
  · rw [zc c (by omega), m8 c (by omega) (by omega), i0 c (by omega), m4 c (by omega), m2 c (by omega) (by omega)]
