/-! a TENTH, class against reference -/
theorem sh_sa {b : St} {F : Nat → Int32} {o : Nat} (h : 0 < o) : sh o (sa b 0 F) = sh o b := by
  funext a
  unfold sh
  exact sa_ne (by omega)
theorem ne_el {ρ : Type} {x : Prop} [Decidable x] {a b : ρ} {c : ρ} (h : c = if x then a else b) (n : ¬ x) : c = b := h.trans (if_neg n)
theorem po_el {ρ : Type} {x : Prop} [Decidable x] {a b : ρ} {c : ρ} (h : c = if x then a else b) (n : x) : c = a := h.trans (if_pos n)
theorem SET.fr {b b2 : St} {r r2 : Nat → Int32} (h : SET b r) (hb : ∀ c, c ≠ 0 → b2 c = b c) (hr : ∀ j, (j < 15 ∨ 28 < j) → r2 j = r j) : SET b2 r2 := by
  obtain ⟨s1, s2⟩ := h
  refine ⟨?_, fun j hj => ?_⟩
  · rw [hb 1 (by decide)]; exact s1
  · rw [hb 2 (by decide), hr j (by omega)]; exact s2 j hj
theorem BK.fr {b b2 : St} {r r2 : Nat → Int32} (h : BK b r) (hb : ∀ c, c ≠ 0 → b2 c = b c) (hr : ∀ j, (j < 15 ∨ 28 < j) → r2 j = r j) : BK b2 r2 := by
  obtain ⟨k1, k2, k3, k4⟩ := h
  refine ⟨?_, ?_, ?_, fun j hj => ?_⟩
  · rw [hb 4 (by decide), hr 150 (by omega)]; exact k1
  · rw [hb 6 (by decide), hr 150 (by omega)]; exact k2
  · rw [hb 8 (by decide), hr 150 (by omega)]; exact k3
  · rw [hr 150 (by omega)] at hj
    rw [hb 5 (by decide), hb 7 (by decide), hb 9 (by decide), hr _ (by omega), hr _ (by omega), hr _ (by omega)]
    exact k4 j hj
/-- a place of a row that is in use -/
theorem at_in {n : Nat} {S : St} {x p : Int32} (hs : S 0 1 = x) (h0 : 0 ≤ p.toInt) (h1 : ¬ x ≤ p) : xX1_at n S p = S 1 p.toInt.toNat := by
  unfold xX1_at
  rw [if_neg (by rw [i_lt]; exact h0), if_neg (by rw [hs]; exact h1), tnc]
theorem value_eq {b M : St} {p : Int32} (hk : BK b (M 0)) (hz : rz (M 0)) (ht : b 0 10 = M 0 22) : ∀ (k : Nat) (v2 v3 v4 : Int32), 0 ≤ v4.toInt → xX2_valueOf_l9 k (sh 3 b) p (b 0 10) v2 v3 v4 = xX5_airOf_l9 k M p v2 v3 v4 := by
  intro k
  induction k with
  | zero => intro v2 v3 v4 _; rfl
  | succ k ih =>
    intro v2 v3 v4 h0
    obtain ⟨k1, k2, k3, k4⟩ := hk
    have e1 : xX1_size 20 (sh 1 (sh 3 b)) = M 0 150 := k1
    unfold xX2_valueOf_l9 xX5_airOf_l9
    rw [e1]
    by_cases c : M 0 150 ≤ v4
    · rw [if_pos c, if_pos c]
    · rw [if_neg c, if_neg c]
      have hj : ((v4.toInt.toNat : Nat) : Int) < (M 0 150).toInt := by
        have := i_le.mp c
        omega
      obtain ⟨q1, q2, q3⟩ := k4 _ hj
      have a1 : xX1_at 20 (sh 1 (sh 3 b)) v4 = b 5 v4.toInt.toNat := at_in (S := sh 1 (sh 3 b)) k1 h0 c
      have a2 : xX1_at 20 (sh 3 (sh 3 b)) v4 = b 7 v4.toInt.toNat := at_in (S := sh 3 (sh 3 b)) k2 h0 c
      have a3 : xX1_at 20 (sh 5 (sh 3 b)) v4 = b 9 v4.toInt.toNat := at_in (S := sh 5 (sh 3 b)) k3 h0 c
      have t := ao_t hz h0 c (rfl : 90 + 3 * v4 = 90 + 3 * v4)
      have n1 : (90 + 3 * v4 : Int32).toNatClampNeg = 90 + 3 * v4.toInt.toNat := by rw [tnc, t.1]; omega
      have n2 : (90 + 3 * v4 + 1 : Int32).toNatClampNeg = 90 + 3 * v4.toInt.toNat + 1 := by
        rw [tnc, i_add] <;> rw [t.1, show (1 : Int32).toInt = 1 from rfl] <;> omega
      have n3 : (90 + 3 * v4 + 2 : Int32).toNatClampNeg = 90 + 3 * v4.toInt.toNat + 2 := by
        rw [tnc, i_add] <;> rw [t.1, show (2 : Int32).toInt = 2 from rfl] <;> omega
      have h1 : 0 ≤ (v4 + 1).toInt := ge_step h0 c
      simp only [nm_eq]
      rw [a1, a2, a3, n1, n2, n3, q1, q2, q3, ht]
      rw [ht] at ih
      by_cases c1 : M 0 (90 + 3 * v4.toInt.toNat) = p
      · rw [if_pos c1, if_pos c1]
        by_cases c2 : M 0 22 < M 0 (90 + 3 * v4.toInt.toNat + 1)
        · rw [if_pos c2, if_pos c2]
          exact ih _ _ _ h1
        · rw [if_neg c2, if_neg c2]
          by_cases c3 : M 0 (90 + 3 * v4.toInt.toNat + 1) < v3
          · rw [if_pos c3, if_neg (by rw [i_le]; exact Int32.lt_iff_toInt_lt.mp c3)]
            exact ih _ _ _ h1
          · rw [if_neg c3, if_pos (by rw [Int32.le_iff_toInt_le]; exact i_lt.mp c3)]
            exact ih _ _ _ h1
      · rw [if_neg c1, if_neg c1]
        exact ih _ _ _ h1
theorem valueOf_rel {b M : St} {p : Int32} {j : Nat} (hs : SET b (M 0)) (hk : BK b (M 0)) (hz : rz (M 0)) (ht : b 0 10 = M 0 22) (hp : p = nI j) (hj : j < 15) : xX2_valueOf (sh 3 b) p (b 0 10) (xX1_at 15 (sh 1 b) p) = xX5_airOf M p := by
  have e1 : xX1_size 20 (sh 1 (sh 3 b)) = M 0 150 := hk.1
  have e2 : p.toNatClampNeg = j := by rw [hp, tnc, nI_toInt (by omega)]; rfl
  unfold xX2_valueOf xX5_airOf
  simp only [nm_eq]
  rw [e1, at15 hs p j hp hj, e2]
  exact value_eq hk hz ht _ _ _ _ (by decide)
/-- WIND by the DRAW or by the book -/
def DRA (b : St) (v : Nat → Int32) : Prop := (b 0 16 = -1 ∧ v 7 < 0) ∨ (b 0 16 = v 7 ∧ 0 ≤ v 7)
theorem mx0 (y : Int32) : (if 0 < y then y else 0) = if 0 ≤ y then y else 0 := by
  have z : (0 : Int32).toInt = 0 := rfl
  by_cases h : 0 < y
  · have h2 := Int32.lt_iff_toInt_lt.mp h
    rw [if_pos h, if_pos (by rw [Int32.le_iff_toInt_le]; omega)]
  · rw [if_neg h]
    split
    · rename_i q
      have a := i_lt.mp h
      have c := Int32.le_iff_toInt_le.mp q
      apply Int32.toInt_inj.mp
      omega
    · rfl
theorem mn0 (a c : Int32) : (if a < c then a else c) = xX5_lesser c a := by
  unfold xX5_lesser
  by_cases h : a < c
  · have h2 := Int32.lt_iff_toInt_lt.mp h
    rw [if_pos h, if_pos (by rw [Int32.le_iff_toInt_le]; omega)]
  · rw [if_neg h]
    split
    · rename_i q
      have a1 := i_lt.mp h
      have c1 := Int32.le_iff_toInt_le.mp q
      apply Int32.toInt_inj.mp
      omega
    · rfl
theorem going_rel {b M : St} {p0 p1 : Int32} (hs : SET b (M 0)) (h8 : b 0 8 = M 0 20) (h6 : b 0 6 = M 0 18) {v5 x8 v10 x11 : Int32} (e5 : v5 = if M 0 12 = 1 then (nm (if 0 ≤ p0 - M 0 20 / 1000 then p0 - M 0 20 / 1000 else 0) fun v4 => v4) else p0) (e8 : x8 = v5 * (p1 + 1) / 4) (e10 : v10 = if M 0 13 = 1 then 2 * x8 else x8) (e11 : x11 = xX5_lesser v10 (M 0 18)) : xX0_goingOff b p0 p1 = x11 := by
  rw [e11, e10, e8, e5]
  unfold xX0_goingOff
  simp only [nm_eq]
  rw [at15 hs 12 12 rfl (by decide), at15 hs 13 13 rfl (by decide), h8, h6, mn0, mx0, Int32.mul_comm 2]
theorem airOf_rel {b M : St} {p : Int32} {j : Nat} (hs : SET b (M 0)) (hk : BK b (M 0)) (hz : rz (M 0)) (ht : b 0 10 = M 0 22) (hp : p = nI j) (hj : j < 15) (h9 : j ≠ 9) : xX0_airOf b p = xX5_airOf M p := by
  unfold xX0_airOf xX0_airOf_j19
  rw [if_neg, valueOf_rel hs hk hz ht hp hj]
  intro q
  rw [hp] at q
  exact h9 ((nI_eq (by omega) (by decide)).mp (q.trans (rfl : (9 : Int32) = nI 9)))
theorem airOf9_rel {b M : St} {v : Nat → Int32} (hd : DRA b v) (hs : SET b (M 0)) (hk : BK b (M 0)) (hz : rz (M 0)) (ht : b 0 10 = M 0 22) : xX0_airOf b 9 = if v 7 < 0 then xX5_airOf M 9 else v 7 := by
  unfold xX0_airOf xX0_airOf_j19
  rw [if_pos rfl]
  rcases hd with ⟨d1, d2⟩ | ⟨d1, d2⟩
  · rw [if_pos d1, if_pos d2]
    exact valueOf_rel (j := 9) hs hk hz ht rfl (by decide)
  · have d3 := Int32.le_iff_toInt_le.mp d2
    rw [show (0 : Int32).toInt = 0 from rfl] at d3
    rw [if_neg (by rw [d1]; intro q; rw [q] at d3; exact absurd d3 (by decide)), if_neg (by rw [i_lt]; exact d3), d1]
theorem press_rel {b M : St} (hs : SET b (M 0)) (hz : rz (M 0)) (h4 : b 0 4 = M 0 16) (h5 : b 0 5 = M 0 17) : xX0_pressure b = (M 0 17 - M 0 16) * M 0 3 / (3 * M 0 6) - M 0 4 := by
  unfold xX0_pressure
  simp only [nm_eq]
  rw [at15 hs 6 6 rfl (by decide), at15 hs 3 3 rfl (by decide), at15 hs 4 4 rfl (by decide), h4, h5, if_neg]
  obtain ⟨-, -, a, c⟩ := hz
  have e : (3 * M 0 6).toInt = 3 * (M 0 6).toInt := by
    rw [i_mul] <;> rw [show (3 : Int32).toInt = 3 from rfl] <;> omega
  rw [i_le, e, show (0 : Int32).toInt = 0 from rfl]
  omega
theorem rz_ex {r r2 : Nat → Int32} (h : rz r) (hr : ∀ j, (j < 15 ∨ 28 < j) → r2 j = r j) : rz r2 := by
  unfold rz
  rw [hr 89 (by omega), hr 150 (by omega), hr 6 (by omega)]
  exact h
