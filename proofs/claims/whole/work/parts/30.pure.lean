/-! THE MATHEMATICS: the class's bird b (12 cells) against the reference's row r (151 ints) -/
theorem sa_sa (M : St) (c : Nat) (f g : Nat → Int32) : sa (sa M c f) c g = sa M c g := by
  funext a
  unfold sa
  cases Nat.beq a c <;> rfl
theorem up_get (f : Nat → Int32) (i b : Nat) (x : Int32) : up f i x b = if b = i then x else f b := by
  by_cases h : b = i
  · subst h
    rw [up_eq, if_pos rfl]
  · rw [up_ne h, if_neg h]
/-- the settings, the numbers, the book, the drum -/
def SET (b : St) (r : Nat → Int32) : Prop := b 1 1 = 15 ∧ ∀ j : Nat, j < 15 → b 2 j = r j
def IN (δ : Int32) (v r : Nat → Int32) : Prop := v 3 = r 15 ∧ v 4 = r 16 ∧ v 5 = r 17 ∧ v 6 = r 18 ∧ v 7 = r 19 ∧ v 8 = r 20 ∧ v 9 = r 21 ∧ v 10 = r 22 ∧ v 11 = r 23 ∧ v 12 = r 24 ∧ v 13 = r 25 + δ ∧ v 14 = r 26 ∧ v 17 = r 27 ∧ v 15 = r 28
def BK (b : St) (r : Nat → Int32) : Prop := b 4 1 = r 150 ∧ b 6 1 = r 150 ∧ b 8 1 = r 150 ∧ ∀ j : Nat, (j : Int) < (r 150).toInt → b 5 j = r (90 + 3 * j) ∧ b 7 j = r (90 + 3 * j + 1) ∧ b 9 j = r (90 + 3 * j + 2)
def DR (b : St) (r : Nat → Int32) : Prop := b 10 1 = r 89 ∧ ∀ j : Nat, (j : Int) < (r 89).toInt → b 11 j = r (29 + j)
def BE (δ : Int32) (b : St) (r : Nat → Int32) : Prop := SET b r ∧ IN δ (b 0) r ∧ BK b r ∧ DR b r
theorem BE.fr {δ δ2 : Int32} {b b2 : St} {r r2 : Nat → Int32} (h : BE δ b r) (hb : ∀ c, c ≠ 0 → b2 c = b c) (hr : ∀ j, (j < 15 ∨ 28 < j) → r2 j = r j) (hi : IN δ2 (b2 0) r2) : BE δ2 b2 r2 := by
  obtain ⟨⟨s1, s2⟩, -, ⟨k1, k2, k3, k4⟩, ⟨d1, d2⟩⟩ := h
  refine ⟨⟨?_, fun j hj => ?_⟩, hi, ⟨?_, ?_, ?_, fun j hj => ?_⟩, ⟨?_, fun j hj => ?_⟩⟩
  · rw [hb 1 (by decide)]; exact s1
  · rw [hb 2 (by decide), hr j (by omega)]; exact s2 j hj
  · rw [hb 4 (by decide), hr 150 (by omega)]; exact k1
  · rw [hb 6 (by decide), hr 150 (by omega)]; exact k2
  · rw [hb 8 (by decide), hr 150 (by omega)]; exact k3
  · rw [hr 150 (by omega)] at hj
    rw [hb 5 (by decide), hb 7 (by decide), hb 9 (by decide), hr _ (by omega), hr _ (by omega), hr _ (by omega)]
    exact k4 j hj
  · rw [hb 10 (by decide), hr 89 (by omega)]; exact d1
  · rw [hr 89 (by omega)] at hj
    rw [hb 11 (by decide), hr _ (by omega)]
    exact d2 j hj
/-- a setting read by its number -/
theorem at15 {b : St} {r : Nat → Int32} (h : SET b r) (p : Int32) (j : Nat) (hp : p = nI j) (hj : j < 15) : xX1_at 15 (sh 1 b) p = r j := by
  have e1 : (sh 1 b) 0 1 = 15 := h.1
  have hp2 : p.toInt = j := by rw [hp]; exact nI_toInt (by omega)
  unfold xX1_at
  rw [if_neg (by rw [i_lt, hp2, show (0 : Int32).toInt = 0 from rfl]; omega), e1, if_neg (by rw [i_le, hp2, show (15 : Int32).toInt = 15 from rfl]; omega), tnc, hp2]
  exact h.2 j hj
theorem turn_eq (b : St) (k : Int32) : xX0_turn b k = sa b 0 (up (up (up (b 0) 12 k) 13 0) 14 (if k = 1 then 88 else 0)) := by
  unfold xX0_turn
  simp only [nm_eq, sa_sa, sa_eq]
theorem goesTo_eq (M : St) (k : Int32) : xX5_goesTo M k = sa M 0 (up (up (up (M 0) 24 k) 25 (-1)) 26 (if k = 1 then 88 else 0)) := by
  unfold xX5_goesTo
  simp only [nm_eq, sa_sa, sa_eq]
theorem turn_rel {δ : Int32} {b M : St} (k : Int32) (h : BE δ b (M 0)) : BE 1 (xX0_turn b k) (xX5_goesTo M k 0) := by
  rw [turn_eq, goesTo_eq, sa_eq]
  refine h.fr (fun c hc => sa_ne hc) (fun j hj => ?_) ?_
  · rw [up_ne (by omega), up_ne (by omega), up_ne (by omega)]
  · obtain ⟨-, ⟨a1, a2, a3, a4, a5, a6, a7, a8, a9, a10, a11, a12, a13, a14⟩, -, -⟩ := h
    rw [sa_eq]
    unfold IN
    simp only [up_get]
    simp [a1, a2, a3, a4, a5, a6, a7, a8, a9, a13, a14]
theorem height_rel {δ : Int32} {b M : St} (h : BE δ b (M 0)) : xX0_height b = xX5_fullOf M := by
  unfold xX0_height xX5_fullOf
  rw [at15 h.1 2 2 rfl (by decide), at15 h.1 1 1 rfl (by decide), at15 h.1 5 5 rfl (by decide)]
theorem mostWet_rel {δ : Int32} {b M : St} (h : BE δ b (M 0)) : xX0_mostWet b = 100 * M 0 0 := by
  unfold xX0_mostWet
  rw [at15 h.1 0 0 rfl (by decide)]
