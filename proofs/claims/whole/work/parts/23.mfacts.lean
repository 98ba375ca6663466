/-- not by rfl, so that simp keeps a step of it -/
theorem nm_eq {α ρ : Type} (x : α) (f : α → ρ) : nm x f = f x := Eq.symm (Eq.symm (by unfold nm; exact Eq.refl _))
/-! plain facts of the reference's small functions -/
theorem sa_ne {M : St} {c a : Nat} {f : Nat → Int32} (h : a ≠ c) : sa M c f a = M a := by
  unfold sa
  cases hh : Nat.beq a c with
  | false => rfl
  | true => exact absurd (Nat.eq_of_beq_eq_true hh) h
theorem cp_l : ∀ (k : Nat) (M : St) (v : Int32), 0 ≤ v.toInt → mu v 151 < k → (∀ a, a ≠ 1 → xX5_copies_l2 k M v a = M a) ∧ ∀ j, xX5_copies_l2 k M v 1 j = if v.toInt.toNat ≤ j ∧ j < 151 then M 0 j else M 1 j := by
  intro k
  induction k with
  | zero => intro M v _ h; exact absurd h (Nat.not_lt_zero _)
  | succ k ih =>
    intro M v hv hmu
    rw [xX5_copies_l2]
    by_cases c : (151 : Int32) ≤ v
    · rw [if_pos c]
      have c2 := Int32.le_iff_toInt_le.mp c
      rw [show (151 : Int32).toInt = 151 from rfl] at c2
      refine ⟨fun _ _ => rfl, fun j => ?_⟩
      rw [if_neg (by omega)]
    · rw [if_neg c]
      have c2 := i_le.mp c
      rw [show (151 : Int32).toInt = 151 from rfl] at c2
      have h1 : (v + 1).toInt = v.toInt + 1 := by
        rw [i_add] <;> rw [show (1 : Int32).toInt = 1 from rfl] <;> omega
      obtain ⟨q1, q2⟩ := ih (sa M 1 (up (M 1) v.toNatClampNeg (M 0 v.toNatClampNeg))) (v + 1) (by omega) (lp_dec c hmu)
      simp only [nm_eq]
      refine ⟨fun a ha => ?_, fun j => ?_⟩
      · rw [q1 a ha, sa_ne ha]
      · rw [q2 j, h1, sa_eq, sa_ne (by decide), tnc]
        by_cases e : j = v.toInt.toNat
        · subst e
          rw [if_neg (by omega), if_pos (by omega), up_eq]
        · rw [up_ne e]
          by_cases e2 : v.toInt.toNat ≤ j ∧ j < 151
          · rw [if_pos e2, if_pos (by omega)]
          · rw [if_neg e2, if_neg (by omega)]
theorem copies_eq (M : St) : (∀ a, a ≠ 1 → xX5_copies M a = M a) ∧ ∀ j, xX5_copies M 1 j = if j < 151 then M 0 j else M 1 j := by
  unfold xX5_copies
  obtain ⟨K, hK⟩ : ∃ K, K = mu 0 151 + 1 := ⟨_, rfl⟩
  rw [← hK]
  have h := cp_l K M 0 (by decide) (by rw [hK]; exact Nat.lt_succ_self _)
  refine ⟨h.1, fun j => (h.2 j).trans ?_⟩
  rw [show (0 : Int32).toInt.toNat = 0 from rfl]
  simp
theorem fr_l : ∀ (k : Nat) (M : St) (v : Int32), 16 ≤ v.toInt → muE v 28 < k → (∀ a, a ≠ 1 → xX5_freshens_l8 k M v a = M a) ∧ ∀ j, xX5_freshens_l8 k M v 1 j = if j = 150 then 0 else if j = 89 then 0 else if j = 18 then xX5_lesser 500 (100 * M 0 0) else if j = 17 then M 0 11 else if j = 16 then M 0 11 else if v.toInt.toNat ≤ j ∧ j ≤ 28 then 0 else M 1 j := by
  intro k
  induction k with
  | zero => intro M v _ h; exact absurd h (Nat.not_lt_zero _)
  | succ k ih =>
    intro M v hv hmu
    rw [xX5_freshens_l8]
    by_cases c : (28 : Int32) < v
    · rw [if_pos c]
      have c2 := Int32.lt_iff_toInt_lt.mp c
      rw [show (28 : Int32).toInt = 28 from rfl] at c2
      simp only [nm_eq]
      refine ⟨fun a ha => ?_, fun j => ?_⟩
      · rw [sa_ne ha, sa_ne ha, sa_ne ha, sa_ne ha, sa_ne ha]
      · simp only [sa_eq, sa_ne (show (0 : Nat) ≠ 1 by decide)]
        by_cases e1 : j = 150
        · subst e1; rw [up_eq, if_pos rfl]
        rw [up_ne e1, if_neg e1]
        by_cases e2 : j = 89
        · subst e2; rw [up_eq, if_pos rfl]
        rw [up_ne e2, if_neg e2]
        by_cases e3 : j = 18
        · subst e3; rw [up_eq, if_pos rfl]
        rw [up_ne e3, if_neg e3]
        by_cases e4 : j = 17
        · subst e4; rw [up_eq, if_pos rfl]
        rw [up_ne e4, if_neg e4]
        by_cases e5 : j = 16
        · subst e5; rw [up_eq, if_pos rfl]
        rw [up_ne e5, if_neg e5, if_neg (by omega)]
    · rw [if_neg c]
      have c2 := i_lt.mp c
      rw [show (28 : Int32).toInt = 28 from rfl] at c2
      have h1 : (v + 1).toInt = v.toInt + 1 := by
        rw [i_add] <;> rw [show (1 : Int32).toInt = 1 from rfl] <;> omega
      obtain ⟨q1, q2⟩ := ih (sa M 1 (up (M 1) v.toNatClampNeg 0)) (v + 1) (by omega) (lp_decE (d := 1) (by decide) (by decide) c hmu)
      simp only [nm_eq]
      refine ⟨fun a ha => ?_, fun j => ?_⟩
      · rw [q1 a ha, sa_ne ha]
      · rw [q2 j, h1, sa_eq, sa_ne (by decide), tnc]
        by_cases e : j = v.toInt.toNat
        · subst e
          rw [if_neg (show ¬ ((v.toInt + 1).toNat ≤ v.toInt.toNat ∧ v.toInt.toNat ≤ 28) by omega), up_eq]
          rw [if_pos (show v.toInt.toNat ≤ v.toInt.toNat ∧ v.toInt.toNat ≤ 28 by omega)]
        · rw [up_ne e]
          by_cases e2 : v.toInt.toNat ≤ j ∧ j ≤ 28
          · rw [if_pos e2, if_pos (show (v.toInt + 1).toNat ≤ j ∧ j ≤ 28 by omega)]
          · rw [if_neg e2, if_neg (show ¬ ((v.toInt + 1).toNat ≤ j ∧ j ≤ 28) by omega)]
theorem freshens_eq (M : St) : (∀ a, a ≠ 1 → xX5_freshens M a = M a) ∧ ∀ j, xX5_freshens M 1 j = if j = 150 then 0 else if j = 89 then 0 else if j = 18 then xX5_lesser 500 (100 * M 0 0) else if j = 17 then M 0 11 else if j = 16 then M 0 11 else if 16 ≤ j ∧ j ≤ 28 then 0 else if j < 151 then M 0 j else M 1 j := by
  have c := copies_eq M
  unfold xX5_freshens
  rw [nm_eq]
  generalize xX5_copies M = z at c ⊢
  obtain ⟨K, hK⟩ : ∃ K, K = muE 16 28 + 1 := ⟨_, rfl⟩
  rw [← hK]
  have h := fr_l K z 16 (by decide) (by rw [hK]; exact Nat.lt_succ_self _)
  refine ⟨fun a ha => (h.1 a ha).trans (c.1 a ha), fun j => (h.2 j).trans ?_⟩
  rw [c.1 0 (by decide), c.2 j]
  rfl
theorem rz_ext {f g : Nat → Int32} (h : rz g) (e : ∀ j, j < 151 → f j = g j) : rz f := by
  unfold rz
  rw [e 89 (by decide), e 150 (by decide), e 6 (by decide)]
  exact h
theorem zp_24 {M N z : St} (hz : Zmod M) (ez : z = xX5_copies (sh2 2 1 4 M)) (e : N = put2 2 1 4 1 z M) : Zmod N := by
  have c := copies_eq (sh2 2 1 4 M)
  rw [← ez] at c
  subst e
  refine ⟨?_, hz.2.1, hz.2.2⟩
  show rz (z 0)
  rw [c.1 0 (by decide)]
  exact hz.1
theorem zp_f24 {M N z : St} (hz : Zmod M) (ez : z = xX5_freshens (sh2 2 1 4 M)) (e : N = put2 2 1 4 1 z M) : Zmod N := by
  have c := freshens_eq (sh2 2 1 4 M)
  rw [← ez] at c
  subst e
  refine ⟨?_, hz.2.1, hz.2.2⟩
  show rz (z 0)
  rw [c.1 0 (by decide)]
  exact hz.1
theorem zp_45 {M N z : St} (hz : Zmod M) (ez : z = xX5_copies (sh2 4 1 5 M)) (e : N = put2 4 1 5 1 z M) : Zmod N := by
  subst e
  exact hz
theorem rz_45 {M N z : St} (hm : rz (M 4)) (ez : z = xX5_copies (sh2 4 1 5 M)) (e : N = put2 4 1 5 1 z M) : rz (N 4) ∧ rz (N 5) := by
  have c := copies_eq (sh2 4 1 5 M)
  rw [← ez] at c
  subst e
  constructor
  · show rz (z 0)
    rw [c.1 0 (by decide)]
    exact hm
  · show rz (z 1)
    exact rz_ext hm (fun j hj => by rw [c.2 j, if_pos hj]; rfl)
theorem zp_26 {M N z : St} (hz : Zmod M) (ez : z = xX5_copies (sh2 2 1 6 M)) (e : N = put2 2 1 6 1 z M) : Zmod N := by
  have c := copies_eq (sh2 2 1 6 M)
  rw [← ez] at c
  subst e
  refine ⟨?_, hz.2.1, hz.2.2⟩
  show rz (z 0)
  rw [c.1 0 (by decide)]
  exact hz.1
theorem rz_26 {M N z : St} (hz : Zmod M) (ez : z = xX5_copies (sh2 2 1 6 M)) (e : N = put2 2 1 6 1 z M) : rz (N 6) := by
  have c := copies_eq (sh2 2 1 6 M)
  rw [← ez] at c
  subst e
  show rz (z 1)
  exact rz_ext hz.1 (fun j hj => by rw [c.2 j, if_pos hj]; rfl)
theorem zp_62 {M N z : St} (hm : rz (M 6)) (hz : Zmod M) (ez : z = xX5_copies (sh2 6 1 2 M)) (e : N = put2 6 1 2 1 z M) : Zmod N := by
  have c := copies_eq (sh2 6 1 2 M)
  rw [← ez] at c
  subst e
  refine ⟨?_, hz.2.1, hz.2.2⟩
  show rz (z 1)
  exact rz_ext hm (fun j hj => by rw [c.2 j, if_pos hj]; rfl)
theorem zp_23 {M N z : St} (hz : Zmod M) (ez : z = xX5_copies (sh2 2 1 3 M)) (e : N = put2 2 1 3 1 z M) : Zmod N ∧ rz (N 3) := by
  have c := copies_eq (sh2 2 1 3 M)
  rw [← ez] at c
  subst e
  have h3 : rz (z 1) := rz_ext hz.1 (fun j hj => by rw [c.2 j, if_pos hj]; rfl)
  refine ⟨⟨?_, Or.inr h3, hz.2.2⟩, h3⟩
  show rz (z 0)
  rw [c.1 0 (by decide)]
  exact hz.1
theorem zp_32 {M N z : St} (hz : Zmod M) (c0 : ¬ M 0 6 = 0) (ez : z = xX5_copies (sh2 3 1 2 M)) (e : N = put2 3 1 2 1 z M) : Zmod N := by
  have c := copies_eq (sh2 3 1 2 M)
  rw [← ez] at c
  have hm := hz.2.1.resolve_left c0
  subst e
  refine ⟨?_, Or.inr ?_, hz.2.2⟩
  · show rz (z 1)
    exact rz_ext hm (fun j hj => by rw [c.2 j, if_pos hj]; rfl)
  · show rz (z 0)
    rw [c.1 0 (by decide)]
    exact hm
theorem rf0_within (a b c : Int32) : RF0 (xX5_within a b c) := by
  unfold xX5_within
  repeat' split
  all_goals exact rf0_c (by decide)
theorem rf0_wrongRun (M : St) (a : Int32) : RF0 (xX5_wrongRun M a) := by
  unfold xX5_wrongRun
  exact rf0_within _ _ _
theorem rf0_wrongSorts (a b : Int32) : RF0 (xX5_wrongSorts a b) := by
  unfold xX5_wrongSorts
  repeat' split
  all_goals exact rf0_c (by decide)
theorem wi_rng {a b c x : Int32} (e : x = xX5_within a b c) (h : x = 0) : b.toInt ≤ a.toInt ∧ a.toInt ≤ c.toInt := by
  rw [h] at e
  unfold xX5_within at e
  by_cases c1 : b ≤ a
  · rw [if_pos c1] at e
    by_cases c2 : a ≤ c
    · exact ⟨Int32.le_iff_toInt_le.mp c1, Int32.le_iff_toInt_le.mp c2⟩
    · rw [if_neg c2] at e
      exact absurd e (by decide)
  · rw [if_neg c1] at e
    exact absurd e (by decide)
theorem isIn_rng {a b : Int32} (h : ¬ xX5_isIn a b = 0) : 0 ≤ a.toInt ∧ a.toInt < b.toInt := by
  unfold xX5_isIn at h
  by_cases c1 : a < 0
  · rw [if_pos c1] at h; exact absurd rfl h
  · rw [if_neg c1] at h
    by_cases c2 : b ≤ a
    · rw [if_pos c2] at h; exact absurd rfl h
    · exact ⟨by have := i_lt.mp c1; simpa using this, i_le.mp c2⟩
theorem in15 {x : Int32} (h : vp_in x 15) : vp_in x 151 := by
  rw [vp_in_iff] at *
  omega
theorem vp_n {x : Int32} {n : Nat} (h : vp_in x n) : x.toNatClampNeg = x.toInt.toNat ∧ x.toInt.toNat < n := by
  rw [vp_in_iff] at h
  exact ⟨rfl, by omega⟩
theorem six {x : Int32} {n : Nat} (h : vp_in x n) (e : x.toNatClampNeg = 6) : x.toInt = 6 := by
  rw [vp_in_iff] at h
  rw [tnc] at e
  omega
theorem fb_z1 {M N : St} {p0 p1 : Int32} (hz : Zmod M) (hp : vp_in p0 15) (hq : p0.toInt = 6 → 1 ≤ p1.toInt ∧ p1.toInt ≤ 4) (e : N = sa M 2 (up (M 2) p0.toNatClampNeg p1)) : Zmod N := by
  have t := vp_n hp
  subst e
  refine ⟨?_, hz.2.1, hz.2.2⟩
  show rz (up (M 2) p0.toNatClampNeg p1)
  exact rz_up hz.1 (by omega) (by omega) (fun q => hq (six hp q))
theorem fb_z2 {M K N : St} {p0 x : Int32} (hz : Zmod M) (hp : vp_in p0 15) (ex : x = M 2 p0.toNatClampNeg) (hk : Zmod K) (e : N = sa K 2 (up (K 2) p0.toNatClampNeg x)) : Zmod N := by
  have t := vp_n hp
  subst e
  refine ⟨?_, hk.2.1, hk.2.2⟩
  show rz (up (K 2) p0.toNatClampNeg x)
  exact rz_up hk.1 (by omega) (by omega) (fun q => by rw [ex, q]; exact hz.1.2.2)
theorem bc_z {M N : St} {p0 p1 : Int32} (hz : Zmod M) (hq : rz (up (M 2) p0.toNatClampNeg p1)) (e : N = sa M 2 (up (M 2) p0.toNatClampNeg p1)) : Zmod N := by
  subst e
  exact ⟨hq, hz.2.1, hz.2.2⟩
theorem ne6 {k : Int32} {A : Prop} (h : k.toInt ≠ 6) : k.toInt = 6 → A := fun q => absurd q h
theorem in_p (k : Int32) (n : Nat) (h : 0 ≤ k.toInt ∧ k.toInt < n) : vp_in k n := vp_in_iff.mpr h
theorem sz_of {M : St} (hz : Zmod M) : rz (M 2) := hz.1
theorem set_hp {p0 : Int32} (c : ¬ xX5_isIn p0 15 = 0) : vp_in p0 151 := by
  have h := isIn_rng c
  rw [show (15 : Int32).toInt = 15 from rfl] at h
  exact vp_in_iff.mpr (by omega)
theorem set_hq {M : St} {p0 p1 x : Int32} (hz : Zmod M) (c : ¬ xX5_isIn p0 15 = 0) (e : x = xX5_within p1 (xX5_leastOf p0) (xX5_mostOf p0)) (h : x = 0) : rz (up (M 2) p0.toNatClampNeg p1) := by
  have r := isIn_rng c
  rw [show (15 : Int32).toInt = 15 from rfl] at r
  have hp : vp_in p0 15 := vp_in_iff.mpr (by omega)
  have t := vp_n hp
  refine rz_up hz.1 (by omega) (by omega) (fun q => ?_)
  have q2 := six hp q
  have q3 : p0 = 6 := Int32.toInt_inj.mp (by rw [q2]; rfl)
  have w := wi_rng e h
  rw [q3] at w
  rw [show (xX5_leastOf 6).toInt = 1 from by unfold xX5_leastOf; decide, show (xX5_mostOf 6).toInt = 4 from by unfold xX5_mostOf; decide] at w
  exact w
theorem gl_hq {M : St} {p : Int32} (hz : Zmod M) : rz (up (M 2) (15 : Int32).toNatClampNeg p) := rz_up hz.1 (by decide) (by decide) (fun q => absurd q (by decide))
theorem we_hq {M : St} {p : Int32} (hz : Zmod M) : rz (up (M 2) (18 : Int32).toNatClampNeg p) := rz_up hz.1 (by decide) (by decide) (fun q => absurd q (by decide))
theorem now_in {p0 : Int32} (c : ¬ xX5_isIn p0 13 = 0) (c2 : ¬ (11 : Int32) ≤ p0) : vp_in (16 + p0) 151 := by
  have r := isIn_rng c
  rw [show (13 : Int32).toInt = 13 from rfl] at r
  rw [vp_in_iff, i_add] <;> rw [show (16 : Int32).toInt = 16 from rfl] <;> omega
theorem air_in {p0 : Int32} (c : ¬ xX5_isIn p0 4 = 0) : vp_in (8 + p0) 151 := by
  have r := isIn_rng c
  rw [show (4 : Int32).toInt = 4 from rfl] at r
  rw [vp_in_iff, i_add] <;> rw [show (8 : Int32).toInt = 8 from rfl] <;> omega
theorem dot_in {M : St} {p0 : Int32} (hz : Zmod M) (h0 : 0 ≤ p0.toInt) (c2 : ¬ M 2 89 ≤ p0) : vp_in (29 + p0) 151 := by
  have r := i_le.mp c2
  have b := hz.1.1
  rw [vp_in_iff, i_add] <;> rw [show (29 : Int32).toInt = 29 from rfl] <;> omega
theorem i0 {x : Int32} (h : 0 ≤ x) : 0 ≤ x.toInt := by
  have := Int32.le_iff_toInt_le.mp h
  simpa using this
theorem gp_le {M : St} (hz : Zmod M) : (xX5_gaps M).toInt ≤ 59 := by
  have b := hz.1.1
  unfold xX5_gaps
  split
  · rename_i q
    have q2 := Int32.le_iff_toInt_le.mp q
    rw [show (2 : Int32).toInt = 2 from rfl] at q2
    rw [i_sub] <;> rw [show (1 : Int32).toInt = 1 from rfl] <;> omega
  · decide
theorem gp_hp {M : St} {i : Int32} (hz : Zmod M) (hi : 0 ≤ i.toInt) (c : ¬ xX5_gaps M ≤ i) : 0 ≤ i.toInt ∧ i.toInt ≤ 60 := by
  have a := gp_le hz
  have r := i_le.mp c
  omega
theorem gp_hp1 {M : St} {i : Int32} (hz : Zmod M) (hi : 1 ≤ i.toInt) (c : ¬ xX5_gaps M ≤ i) : 0 ≤ (i - 1).toInt ∧ (i - 1).toInt ≤ 60 := by
  have a := gp_le hz
  have r := i_le.mp c
  rw [i_sub] <;> rw [show (1 : Int32).toInt = 1 from rfl] <;> omega
theorem le01 {i : Int32} (h : 1 ≤ i.toInt) : 0 ≤ i.toInt := by omega
theorem row_in {M : St} (hz : Zmod M) (c : ¬ M 0 13 = 10) : vp_in (M 0 13) 10 := by
  obtain ⟨-, -, -, -, a, b⟩ := hz
  have q : (M 0 13).toInt ≠ 10 := fun q => c (Int32.toInt_inj.mp (by rw [q]; rfl))
  rw [vp_in_iff]
  omega
theorem row_z {M N : St} (hz : Zmod M) (c : ¬ M 0 13 = 10) (e : N = sa M 0 (up (M 0) 13 (M 0 13 + 1))) : Zmod N := by
  obtain ⟨z1, z2, z3, z4, a, b⟩ := hz
  have q : (M 0 13).toInt ≠ 10 := fun q => c (Int32.toInt_inj.mp (by rw [q]; rfl))
  subst e
  refine ⟨z1, z2, z3, z4, ?_⟩
  show 0 ≤ (M 0 13 + 1).toInt ∧ (M 0 13 + 1).toInt ≤ 10
  rw [i_add] <;> rw [show (1 : Int32).toInt = 1 from rfl] <;> omega
theorem row_0 {M N : St} (hz : Zmod M) (e : N = sa M 0 (up (M 0) 13 0)) : Zmod N := by
  obtain ⟨z1, z2, z3, z4, a, b⟩ := hz
  subst e
  exact ⟨z1, z2, z3, z4, (by decide : 0 ≤ (0 : Int32).toInt ∧ (0 : Int32).toInt ≤ 10)⟩
theorem tp_0 {M N : St} (hz : Zmod M) (e : N = sa M 0 (up (M 0) 10 0)) : Zmod N := by
  obtain ⟨z1, z2, z3, z4, z5⟩ := hz
  subst e
  exact ⟨z1, z2, (by decide : 0 ≤ (0 : Int32).toInt ∧ (0 : Int32).toInt ≤ 64), z4, z5⟩
theorem at_0 {M N : St} (hz : Zmod M) (e : N = sa M 0 (up (M 0) 11 0)) : Zmod N := by
  obtain ⟨z1, z2, z3, z4, z5⟩ := hz
  subst e
  exact ⟨z1, z2, z3, (by decide : 0 ≤ (0 : Int32).toInt ∧ (0 : Int32).toInt ≤ 64), z5⟩
theorem im_1 {M N : St} (hz : Zmod M) (h3 : rz (M 3)) (e : N = sa M 0 (up (M 0) 6 1)) : Zmod N := by
  obtain ⟨z1, z2, z3, z4, z5⟩ := hz
  subst e
  exact ⟨z1, Or.inr h3, z3, z4, z5⟩
theorem cnt_in {p0 : Int32} (c1 : ¬ p0 ≤ 10) (c2 : ¬ (17 : Int32) ≤ p0) : vp_in (p0 - 10) 7 := by
  have a := i_le.mp c1
  have b := i_le.mp c2
  rw [show (10 : Int32).toInt = 10 from rfl] at a
  rw [show (17 : Int32).toInt = 17 from rfl] at b
  rw [vp_in_iff, i_sub] <;> rw [show (10 : Int32).toInt = 10 from rfl] <;> omega
theorem is_row {M : St} {i : Int32} (hz : Zmod M) (hi : 0 ≤ i.toInt) (c : ¬ M 0 13 ≤ i) : vp_in i 10 := by
  obtain ⟨-, -, -, -, a, b⟩ := hz
  have r := i_le.mp c
  rw [vp_in_iff]
  omega
theorem is_hp {M : St} {i : Int32} (hz : Zmod M) (hi : 0 ≤ i.toInt) (c : ¬ M 0 13 ≤ i) : 0 ≤ i.toInt ∧ i.toInt ≤ 60 := by
  obtain ⟨-, -, -, -, a, b⟩ := hz
  have r := i_le.mp c
  omega
theorem fd_in {M : St} {n v : Int32} (hz : Zmod M) (hf : (M 0 10).toInt + n.toInt ≤ 64 + v.toInt) (c : ¬ n ≤ v) : vp_in (M 0 10) 64 := by
  obtain ⟨-, -, ⟨a, b⟩, -⟩ := hz
  have r := i_le.mp c
  rw [vp_in_iff]
  omega
theorem fd_z {M N : St} {n v : Int32} (hz : Zmod M) (hf : (M 0 10).toInt + n.toInt ≤ 64 + v.toInt) (c : ¬ n ≤ v) (e : N = sa M 0 (up (M 0) 10 (M 0 10 + 1))) : Zmod N ∧ (N 0 10).toInt = (M 0 10).toInt + 1 := by
  obtain ⟨z1, z2, ⟨a, b⟩, z4, z5⟩ := hz
  have r := i_le.mp c
  have h1 : (M 0 10 + 1).toInt = (M 0 10).toInt + 1 := by
    rw [i_add] <;> rw [show (1 : Int32).toInt = 1 from rfl] <;> omega
  subst e
  have h2 : (sa M 0 (up (M 0) 10 (M 0 10 + 1)) 0 10).toInt = (M 0 10).toInt + 1 := h1
  refine ⟨⟨z1, z2, ?_, z4, z5⟩, h2⟩
  rw [h2]
  omega
theorem fd_s {M : St} {p0 : Int32} (hz : Zmod M) (c1 : 1 ≤ p0) (c2 : ¬ 8 < p0) (c3 : M 0 10 + p0 ≤ 64) : (M 0 10).toInt + p0.toInt ≤ 64 + (0 : Int32).toInt := by
  obtain ⟨-, -, ⟨a, b⟩, -⟩ := hz
  have h1 := Int32.le_iff_toInt_le.mp c1
  have h2 := i_lt.mp c2
  have h3 := Int32.le_iff_toInt_le.mp c3
  rw [show (1 : Int32).toInt = 1 from rfl] at h1
  rw [show (8 : Int32).toInt = 8 from rfl] at h2
  rw [i_add] at h3 <;> rw [show (64 : Int32).toInt = 64 from rfl] at * <;> (try rw [show (0 : Int32).toInt = 0 from rfl]) <;> omega
theorem fd_k {M N K : St} {n v x : Int32} (hf : (M 0 10).toInt + n.toInt ≤ 64 + v.toInt) (c : ¬ n ≤ v) (h : (N 0 10).toInt = (M 0 10).toInt + 1) (ex : x = v + 1) : (N 0 10).toInt + n.toInt ≤ 64 + x.toInt := by
  have r := i_le.mp c
  have a := Int32.toInt_lt n
  have b := Int32.le_toInt v
  rw [ex, i_add] <;> rw [show (1 : Int32).toInt = 1 from rfl] <;> omega
theorem la_hq {p0 : Int32} {c : Int32} (hi : 1 ≤ p0.toInt) (h : ¬ (5 : Int32) ≤ p0) : 1 ≤ p0.toInt ∧ p0.toInt ≤ 4 := by
  have r := i_le.mp h
  rw [show (5 : Int32).toInt = 5 from rfl] at r
  omega
theorem lg_hq {p0 p1 x : Int32} (e : x = if p0 < 1 then (-4) else (if 1 ≤ p1 then (if 4 < p0 then (-6) else (if p1 ≤ 3000 then 0 else (-6))) else (-4))) (h : x = 0) : 1 ≤ p0.toInt ∧ p0.toInt ≤ 4 := by
  rw [h] at e
  by_cases a : p0 < 1
  · rw [if_pos a] at e; exact absurd e (by decide)
  · rw [if_neg a] at e
    by_cases b : 1 ≤ p1
    · rw [if_pos b] at e
      by_cases d : 4 < p0
      · rw [if_pos d] at e; exact absurd e (by decide)
      · exact ⟨i_lt.mp a, i_lt.mp d⟩
    · rw [if_neg b] at e; exact absurd e (by decide)
theorem gap_c {v x a : Int32} (e : v = if x = 0 then (if a = 10 then (-6) else x) else x) (h : v = 0) : ¬ a = 10 := by
  intro q
  rw [h] at e
  by_cases c : x = 0
  · rw [if_pos c, if_pos q] at e
    exact absurd e (by decide)
  · rw [if_neg c] at e
    exact c e.symm
theorem ju_k {i n : Int32} (hi : 0 ≤ i.toInt ∧ i.toInt ≤ n.toInt) (c : ¬ i = n) : 0 ≤ (i + 1).toInt ∧ (i + 1).toInt ≤ n.toInt := by
  have q : i.toInt ≠ n.toInt := fun q => c (Int32.toInt_inj.mp q)
  have a := Int32.toInt_lt n
  rw [i_add] <;> rw [show (1 : Int32).toInt = 1 from rfl] <;> omega
theorem ju_in {M : St} {i x : Int32} (hz : Zmod M) (ex : x = M 0 13) (hi : 0 ≤ i.toInt ∧ i.toInt ≤ x.toInt) (c : ¬ i = x) : vp_in i 10 := by
  have q : i.toInt ≠ x.toInt := fun q => c (Int32.toInt_inj.mp q)
  obtain ⟨-, -, -, -, a, b⟩ := hz
  rw [← ex] at a b
  rw [vp_in_iff]
  omega
def uq (k u : Int32) : Prop := (k = 0 ∧ u = 10000) ∨ (k = 1 ∧ u = 100) ∨ (k = 2 ∧ u = 1) ∨ 3 ≤ k
theorem uq_0 : uq 0 10000 := Or.inl ⟨rfl, rfl⟩
theorem uq_s {k u k2 u2 : Int32} (h : uq k u) (c : ¬ 3 ≤ k) (e1 : k2 = k + 1) (e2 : u2 = u / 100) : uq k2 u2 := by
  subst e1
  subst e2
  rcases h with ⟨rfl, rfl⟩ | ⟨rfl, rfl⟩ | ⟨rfl, rfl⟩ | h
  · exact Or.inr (Or.inl ⟨by decide, by decide⟩)
  · exact Or.inr (Or.inr (Or.inl ⟨by decide, by decide⟩))
  · exact Or.inr (Or.inr (Or.inr (by decide)))
  · exact absurd h c
theorem uq_nz {k u : Int32} (h : uq k u) (c : ¬ 3 ≤ k) : ¬ u = 0 := by
  rcases h with ⟨rfl, rfl⟩ | ⟨rfl, rfl⟩ | ⟨rfl, rfl⟩ | h
  · decide
  · decide
  · decide
  · exact absurd h c
theorem shr_dec {v : Int32} {k : Nat} (c : ¬ v ≤ 0) (h : v.toInt.toNat < k + 1) : (v >>> (1 &&& 31)).toInt.toNat < k := by
  have c1 := i_le.mp c
  rw [show (0 : Int32).toInt = 0 from rfl] at c1
  obtain ⟨j, hj, rfl⟩ := nI_of (x := v) (by rw [i_lt]; rw [show (0 : Int32).toInt = 0 from rfl]; omega)
  rw [pk_shrN hj (1 &&& 31) 1 (by decide), nI_toInt (by omega)]
  rw [nI_toInt hj] at h c1
  omega
