/-! TENTHS in a row -/
noncomputable def cIt (b : St) : Nat → St
  | 0 => b
  | n + 1 => xX0_tenth (cIt b n)
noncomputable def rIt (v : Nat → Int32) (M : St) : Nat → St
  | 0 => M
  | n + 1 => xX5_tenth v (rIt v M n)
theorem cIt_s (b : St) (n : Nat) : cIt b (n + 1) = xX0_tenth (cIt b n) := by rw [cIt]
theorem rIt_s (v : Nat → Int32) (M : St) (n : Nat) : rIt v M (n + 1) = xX5_tenth v (rIt v M n) := by rw [rIt]
theorem cIt_0 (b : St) : cIt b 0 = b := by rw [cIt]
theorem rIt_0 (v : Nat → Int32) (M : St) : rIt v M 0 = M := by rw [rIt]
theorem cIt_f (b : St) : ∀ n, cIt (xX0_tenth b) n = cIt b (n + 1) := by
  intro n
  induction n with
  | zero => rw [cIt_0, cIt_s, cIt_0]
  | succ n ih => rw [cIt_s, ih, cIt_s b (n + 1)]
theorem rIt_f (v : Nat → Int32) (M : St) : ∀ n, rIt v (xX5_tenth v M) n = rIt v M (n + 1) := by
  intro n
  induction n with
  | zero => rw [rIt_0, rIt_s, rIt_0]
  | succ n ih => rw [rIt_s, ih, rIt_s v M (n + 1)]
theorem DRA.fr {b b2 : St} {v : Nat → Int32} (h : DRA b v) (e : b2 0 16 = b 0 16) : DRA b2 v := by
  unfold DRA
  rw [e]
  exact h
/-- alike, and able to go on alike -/
def RB (b : St) (M : St) (v : Nat → Int32) : Prop := BE 0 b (M 0) ∧ RI (M 0) ∧ DRA b v
theorem run_rel {b M : St} {v : Nat → Int32} (h : RB b M v) : ∀ n, RB (cIt b n) (rIt v M n) v ∧ cIt b n 0 16 = b 0 16 ∧ (∀ j, j < 15 ∨ 90 ≤ j → rIt v M n 0 j = M 0 j) ∧ rIt v M n 0 22 = M 0 22 + nI n := by
  intro n
  induction n with
  | zero =>
    rw [cIt_0, rIt_0]
    exact ⟨h, rfl, fun _ _ => rfl, by rw [nI_0, Int32.add_zero]⟩
  | succ n ih =>
    obtain ⟨⟨i1, i2, i3⟩, i4, i5, i6⟩ := ih
    obtain ⟨t1, t2, t3, t4⟩ := tenth_rel i1 i2 i3 (cIt_s b n) (rIt_s v M n)
    refine ⟨⟨t1, t2, i3.fr t3⟩, t3.trans i4, fun j hj => (t4.1 j hj).trans (i5 j hj), ?_⟩
    rw [t4.2.1, i6, nI_succ, Int32.add_assoc]
theorem run_tf {b M : St} {v : Nat → Int32} (h : RB b M v) (n : Nat) : TF (rIt v M n 0) (rIt v M (n + 1) 0) := by
  obtain ⟨⟨i1, i2, i3⟩, -⟩ := run_rel h n
  exact (tenth_rel i1 i2 i3 (cIt_s b n) (rIt_s v M n)).2.2.2
theorem BE.nods {b : St} {r : Nat → Int32} (h : BE 0 b r) : b 0 11 = r 23 := by
  obtain ⟨-, ⟨-, -, -, -, -, -, -, -, g, -, -, -, -, -⟩, -, -⟩ := h
  exact g
theorem BE.time {b : St} {r : Nat → Int32} (h : BE 0 b r) : b 0 10 = r 22 := by
  obtain ⟨-, ⟨-, -, -, -, -, -, -, g, -, -, -, -, -, -⟩, -, -⟩ := h
  exact g
/-- how many NODS of a fresh one -/
theorem run_nods {b M : St} {v : Nat → Int32} (h : RB b M v) (h0 : M 0 23 = 0) : ∀ n, n ≤ 1000000 → 0 ≤ (rIt v M n 0 23).toInt ∧ (rIt v M n 0 23).toInt ≤ n := by
  intro n
  induction n with
  | zero =>
    intro _
    rw [rIt_0, h0]
    decide
  | succ n ih =>
    intro hn
    have i := ih (by omega)
    rcases (run_tf h n).2.2 with ⟨q, -⟩ | ⟨q, -⟩
    · rw [q]; omega
    · rw [q, i_inc (by omega)]; omega
theorem run_mono {b M : St} {v : Nat → Int32} (h : RB b M v) (h0 : M 0 23 = 0) (i : Nat) : ∀ k, i + k ≤ 1000000 → (rIt v M i 0 23).toInt ≤ (rIt v M (i + k) 0 23).toInt := by
  intro k
  induction k with
  | zero => intro _; exact Int.le_refl _
  | succ k ih =>
    intro hn
    have a := ih (by omega)
    have b := run_nods h h0 (i + k) (by omega)
    rcases (run_tf h (i + k)).2.2 with ⟨q, -⟩ | ⟨q, -⟩
    · rw [show i + (k + 1) = i + k + 1 from rfl, q]; exact a
    · rw [show i + (k + 1) = i + k + 1 from rfl, q, i_inc (by omega)]; omega
theorem DRS.dots {r q : Nat → Int32} (hz : rz r) (h : DRS r q) : (r 89).toInt ≤ (q 89).toInt ∧ ∀ j : Nat, (j : Int) < (r 89).toInt → q (29 + j) = r (29 + j) := by
  obtain ⟨⟨a, b⟩, -, -⟩ := hz
  rcases h with ⟨c, d, e⟩ | ⟨c, d, e, f⟩
  · rw [d]
    exact ⟨Int.le_refl _, fun j _ => e _ (by omega)⟩
  · have c2 := i_le.mp c
    rw [show (60 : Int32).toInt = 60 from rfl] at c2
    rw [d, i_inc (by omega)]
    exact ⟨by omega, fun j hj => f _ (by omega) (by omega) (by omega)⟩
theorem run_drum {b M : St} {v : Nat → Int32} (h : RB b M v) (i : Nat) : ∀ k, (rIt v M i 0 89).toInt ≤ (rIt v M (i + k) 0 89).toInt ∧ ∀ j : Nat, (j : Int) < (rIt v M i 0 89).toInt → rIt v M (i + k) 0 (29 + j) = rIt v M i 0 (29 + j) := by
  intro k
  induction k with
  | zero => exact ⟨Int.le_refl _, fun _ _ => rfl⟩
  | succ k ih =>
    obtain ⟨a, c⟩ := ih
    have e : i + (k + 1) = i + k + 1 := rfl
    have d : (rIt v M (i + k) 0 89).toInt ≤ (rIt v M (i + k + 1) 0 89).toInt ∧ ∀ j : Nat, (j : Int) < (rIt v M (i + k) 0 89).toInt → rIt v M (i + k + 1) 0 (29 + j) = rIt v M (i + k) 0 (29 + j) := by
      rcases (run_tf h (i + k)).2.2 with ⟨-, q⟩ | ⟨-, q⟩
      · rw [q 89 (by decide)]
        exact ⟨Int.le_refl _, fun j _ => q _ (by omega)⟩
      · exact q.dots (run_rel h (i + k)).1.2.1.1
    rw [e]
    exact ⟨Int.le_trans a d.1, fun j hj => (d.2 j (by omega)).trans (c j hj)⟩
theorem nodsIn_l : ∀ (k : Nat) (b : St) (p x1 v2 : Int32) (m : Nat), v2.toInt + m = p.toInt → m < k → xX0_nodsIn_l7 k b p x1 v2 = (cIt b m 0 11 - x1, cIt b m) := by
  intro k
  induction k with
  | zero => intro b p x1 v2 m _ h; exact absurd h (Nat.not_lt_zero _)
  | succ k ih =>
    intro b p x1 v2 m e h
    rw [xX0_nodsIn_l7]
    have hp := Int32.toInt_lt p
    cases m with
    | zero => rw [if_pos (by rw [Int32.le_iff_toInt_le]; omega), cIt_0]
    | succ m =>
      rw [if_neg (by rw [i_le]; omega), nm_eq, nm_eq, ← cIt_f]
      exact ih (xX0_tenth b) p x1 (v2 + 1) m (by rw [i_inc (by omega)]; omega) (by omega)
theorem nodsIn_eq (b : St) {p : Int32} {n : Nat} (hp : p.toInt = n) : xX0_nodsIn b p = (cIt b n 0 11 - b 0 11, cIt b n) := by
  unfold xX0_nodsIn
  rw [nm_eq]
  exact nodsIn_l _ b p (b 0 11) 0 n (by rw [z32]; omega) (by unfold mu; rw [z32]; omega)
theorem goesOn_l (v : Nat → Int32) : ∀ (k : Nat) (M : St) (p v2 : Int32) (m : Nat), v2.toInt + m = p.toInt → m < k → xX5_goesOn_l2 v k M p v2 = (rIt v M m 0 23, rIt v M m) := by
  intro k
  induction k with
  | zero => intro M p v2 m _ h; exact absurd h (Nat.not_lt_zero _)
  | succ k ih =>
    intro M p v2 m e h
    rw [xX5_goesOn_l2]
    have hp := Int32.toInt_lt p
    cases m with
    | zero => rw [if_pos (by rw [Int32.le_iff_toInt_le]; omega), rIt_0]
    | succ m =>
      rw [if_neg (by rw [i_le]; omega), nm_eq, nm_eq, ← rIt_f]
      exact ih (xX5_tenth v M) p (v2 + 1) m (by rw [i_inc (by omega)]; omega) (by omega)
theorem goesOn_eq (v : Nat → Int32) (M : St) {p : Int32} {n : Nat} (hp : p.toInt = n) : xX5_goesOn v M p = (rIt v M n 0 23, rIt v M n) := by
  unfold xX5_goesOn
  exact goesOn_l v _ M p 0 n (by rw [z32]; omega) (by unfold mu; rw [z32]; omega)
theorem within_l : ∀ (k : Nat) (b : St) (p x1 v2 : Int32) (m : Nat), v2.toInt + m = p.toInt → m < k → ∃ i, i ≤ m ∧ xX0_nodsWithin_l7 k b p x1 v2 = xX0_nodsWithin_j30 (cIt b i) x1 ∧ (i = m ∨ ¬ cIt b i 0 11 = x1) := by
  intro k
  induction k with
  | zero => intro b p x1 v2 m _ h; exact absurd h (Nat.not_lt_zero _)
  | succ k ih =>
    intro b p x1 v2 m e h
    rw [xX0_nodsWithin_l7]
    have hp := Int32.toInt_lt p
    cases m with
    | zero =>
      rw [if_pos (by rw [Int32.le_iff_toInt_le]; omega)]
      exact ⟨0, Nat.le_refl _, by rw [cIt_0], Or.inl rfl⟩
    | succ m =>
      rw [if_neg (by rw [i_le]; omega)]
      by_cases c : b 0 11 = x1
      · rw [if_pos c, nm_eq, nm_eq]
        obtain ⟨i, i1, i2, i3⟩ := ih (xX0_tenth b) p x1 (v2 + 1) m (by rw [i_inc (by omega)]; omega) (by omega)
        rw [cIt_f] at i2 i3
        refine ⟨i + 1, by omega, i2, ?_⟩
        rcases i3 with i3 | i3
        · exact Or.inl (by omega)
        · exact Or.inr i3
      · rw [if_neg c]
        exact ⟨0, Nat.zero_le _, by rw [cIt_0], Or.inr (by rw [cIt_0]; exact c)⟩
/-- whether a fresh one NODS: the class stops at the first NOD -/
theorem within_rel {b M : St} {v : Nat → Int32} {p : Int32} {n : Nat} {z : Int32 × St} (h : RB b M v) (h0 : M 0 23 = 0) (hp : p.toInt = n) (hn : n ≤ 3000) (ez : z = xX0_nodsWithin b p) : ((z.1 = 0 ∧ rIt v M n 0 23 ≤ 0) ∨ (z.1 = 1 ∧ ¬ rIt v M n 0 23 ≤ 0)) ∧ ∃ i, z.2 = cIt b i := by
  unfold xX0_nodsWithin at ez
  obtain ⟨x1, e1, ez⟩ := nm_el ez
  obtain ⟨i, i1, i2, i3⟩ := within_l (mu 0 p + 1) b p x1 0 n (by rw [z32]; omega) (by unfold mu; rw [z32]; omega)
  rw [i2] at ez
  have hx : x1 = 0 := by rw [e1, h.1.nods, h0]
  subst hx
  have ri := run_rel h i
  have bi : cIt b i 0 11 = rIt v M i 0 23 := ri.1.1.nods
  rw [bi] at i3
  unfold xX0_nodsWithin_j30 at ez
  rw [bi] at ez
  have ni := run_nods h h0 i (by omega)
  have nn := run_nods h h0 n (by omega)
  have mo := run_mono h h0 i (n - i) (by omega)
  rw [show i + (n - i) = n by omega] at mo
  rcases i3 with i3 | i3
  · subst i3
    by_cases c : rIt v M i 0 23 ≤ 0
    · rw [if_pos c] at ez
      rw [ez]
      exact ⟨Or.inl ⟨rfl, c⟩, i, rfl⟩
    · rw [if_neg c] at ez
      rw [ez]
      exact ⟨Or.inr ⟨rfl, c⟩, i, rfl⟩
  · have c3 : (rIt v M i 0 23).toInt ≠ 0 := fun q => i3 (Int32.toInt_inj.mp q)
    have c : ¬ rIt v M i 0 23 ≤ 0 := by rw [i_le, z32]; omega
    rw [if_neg c] at ez
    rw [ez]
    exact ⟨Or.inr ⟨rfl, by rw [i_le, z32]; omega⟩, i, rfl⟩
