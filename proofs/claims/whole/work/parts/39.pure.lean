/-! the drum -/
def GP (T : Nat) (X R : St) (g : Nat) (gp : Nat → Int32) : Prop := g ≤ 59 ∧ xX0_gaps (sh 1 X) = nI g ∧ xX5_gaps R = nI g ∧ ∀ i, i < g → xX0_gapAt (sh 1 X) (nI i) = gp i ∧ xX5_gapOf (sh 2 R) (nI i) = gp i ∧ -(T : Int) ≤ (gp i).toInt ∧ (gp i).toInt ≤ T
theorem gaps_rel {b : St} {r : Nat → Int32} (h : BE 0 b r) (hz : rz r) : ∃ g : Nat, g ≤ 59 ∧ xX0_gaps b = nI g ∧ (if 2 ≤ r 89 then r 89 - 1 else 0) = nI g ∧ ((r 89).toInt = g + 1 ∨ (g = 0 ∧ (r 89).toInt ≤ 1)) := by
  have d1 : b 10 1 = r 89 := h.2.2.2.1
  obtain ⟨⟨z1, z2⟩, -, -⟩ := hz
  have es : xX1_size 60 (sh 10 b) = r 89 := d1
  unfold xX0_gaps
  rw [es]
  obtain ⟨m, hm, hm2⟩ : ∃ m : Nat, r 89 = nI m ∧ m ≤ 60 := ⟨(r 89).toInt.toNat, nIt z1, by omega⟩
  rw [hm]
  have mi : (nI m).toInt = m := nI_toInt (by omega)
  rcases Nat.lt_or_ge m 2 with q | q
  · refine ⟨0, by omega, ?_, ?_, Or.inr ⟨rfl, by rw [mi]; omega⟩⟩
    · have q2 : m = 0 ∨ m = 1 := by omega
      rcases q2 with q2 | q2
      · rw [q2]; decide +kernel
      · rw [q2]; decide +kernel
    · rw [if_neg (by rw [i_le, mi, show (2 : Int32).toInt = 2 from rfl]; omega)]
      rfl
  · obtain ⟨k, hk⟩ : ∃ k, m = k + 1 := ⟨m - 1, by omega⟩
    rw [hk] at mi ⊢
    have ki : (nI k).toInt = k := nI_toInt (by omega)
    refine ⟨k, by omega, ?_, ?_, Or.inl (by rw [mi]; omega)⟩
    · rw [nI_pred, if_pos (by rw [Int32.lt_iff_toInt_lt, z32, ki]; omega)]
    · rw [if_pos (by rw [Int32.le_iff_toInt_le, mi, show (2 : Int32).toInt = 2 from rfl]; omega), nI_pred]
theorem gapAt_rel {b : St} {r : Nat → Int32} {g i : Nat} (h : BE 0 b r) (hg : xX0_gaps b = nI g) (hr : (r 89).toInt = g + 1) (hi : i < g) (h59 : g ≤ 59) : xX0_gapAt b (nI i) = r (29 + i + 1) - r (29 + i) := by
  have d1 : b 10 1 = r 89 := h.2.2.2.1
  have d2 := h.2.2.2.2
  have ii : (nI i).toInt = i := nI_toInt (by omega)
  have i1 : (nI (i + 1)).toInt = (i + 1 : Nat) := nI_toInt (by omega)
  have a1 : sh 10 b 1 (i + 1) = r (29 + i + 1) := d2 (i + 1) (by omega)
  have a0 : sh 10 b 1 i = r (29 + i) := d2 i (by omega)
  unfold xX0_gapAt
  rw [if_neg (nI_pos (by omega)), hg, if_neg (nI_ge hi (by omega)), nI_1]
  rw [at_in (S := sh 10 b) d1 (by rw [i1]; omega) (by rw [i_le, i1]; omega), at_in (S := sh 10 b) d1 (by rw [ii]; omega) (by rw [i_le, ii]; omega), i1, ii]
  show sh 10 b 1 (i + 1) - sh 10 b 1 i = _
  rw [a1, a0]
theorem gapOf_rel {M : St} {i : Nat} (hi : i < 60) : xX5_gapOf M (nI i) = M 0 (29 + i + 1) - M 0 (29 + i) := by
  unfold xX5_gapOf
  rw [show (29 : Int32) = nI 29 from rfl, nI_add, nI_1, nI_clamp (by omega), nI_clamp (by omega)]
theorem gp_of {T : Nat} {X R : St} (hT : T ≤ 1000000000) (h : REL T X R) : ∃ g gp, GP T X R g gp := by
  have hb := h.1.1
  have hz := h.1.2.1.1
  have db := h.1.2.2.2
  obtain ⟨g, g59, ga, gr, g89⟩ := gaps_rel hb hz
  refine ⟨g, fun i => R 2 (29 + i + 1) - R 2 (29 + i), g59, ga, ?_, fun i hi => ?_⟩
  · unfold xX5_gaps
    exact gr
  · have hr : (R 2 89).toInt = g + 1 := by
      rcases g89 with q | q
      · exact q
      · omega
    have d0 := db.2.2 i (by omega)
    have d1 : 0 ≤ (R 2 (29 + i + 1)).toInt ∧ (R 2 (29 + i + 1)).toInt ≤ T := db.2.2 (i + 1) (by omega)
    refine ⟨gapAt_rel hb ga hr hi g59, gapOf_rel (M := sh 2 R) (by omega), ?_⟩
    show -(T : Int) ≤ (R 2 (29 + i + 1) - R 2 (29 + i)).toInt ∧ (R 2 (29 + i + 1) - R 2 (29 + i)).toInt ≤ T
    have e : (R 2 (29 + i + 1) - R 2 (29 + i)).toInt = (R 2 (29 + i + 1)).toInt - (R 2 (29 + i)).toInt := i_sub (by omega) (by omega)
    omega
theorem lp_out {T : Nat} {X R : St} {a b z y : Int32 × St} (h : REL T X R) (ez : z = a) (ey : y = b) (e : a.1 = b.1 ∧ a.2 = X ∧ b.2 = R) : OUT T z y := by
  rw [ez, ey]
  refine ⟨e.1, ?_⟩
  rw [e.2.1, e.2.2]
  exact h.mono (by omega)
theorem nlt {a b : Nat} (ha : a < 2 ^ 31) (hb : b < 2 ^ 31) (c : ¬ nI b ≤ nI a) : a < b := by
  rcases Nat.lt_or_ge a b with q | q
  · exact q
  · exact absurd (nI_le q ha) c
theorem even_l {T : Nat} {X R : St} {g : Nat} {gp : Nat → Int32} (hg : GP T X R g gp) (p : Int32) : ∀ (k j : Nat), 1 ≤ j → j ≤ 1000 → (xX4_even_l13 k X p (nI j)).1 = (xX5_even_l13 k R p (nI j)).1 ∧ (xX4_even_l13 k X p (nI j)).2 = X ∧ (xX5_even_l13 k R p (nI j)).2 = R := by
  obtain ⟨g59, ga, gr, gi⟩ := hg
  intro k
  induction k with
  | zero =>
    intro j _ _
    rw [xX4_even_l13, xX5_even_l13]
    exact ⟨rfl, rfl, rfl⟩
  | succ k ih =>
    intro j h1 h2
    rw [xX4_even_l13, xX5_even_l13, ga, gr]
    by_cases c : nI g ≤ nI j
    · rw [if_pos c, if_pos c]
      exact ⟨rfl, rfl, rfl⟩
    · rw [if_neg c, if_neg c]
      have hj : j < g := nlt (by omega) (by omega) c
      obtain ⟨m, hm⟩ : ∃ m, j = m + 1 := ⟨j - 1, by omega⟩
      rw [hm] at hj ⊢
      rw [nI_pred, (gi (m + 1) hj).1, (gi (m + 1) hj).2.1, (gi m (by omega)).1, (gi m (by omega)).2.1, abs_same]
      by_cases d : xX5_amount (gp (m + 1) - gp m) ≤ p
      · rw [if_pos d, if_pos d, nm_eq, nm_eq, nI_1]
        exact ih (m + 1 + 1) (by omega) (by omega)
      · rw [if_neg d, if_neg d]
        exact ⟨rfl, rfl, rfl⟩
theorem C_even {T : Nat} {X R : St} {p0 : Int32} {z y : Int32 × St} (hT : T ≤ 1000000000) (h : REL T X R) (ez : z = xX4_even X p0) (ey : y = xX5_even R p0) : OUT T z y := by
  obtain ⟨g, gp, hg⟩ := gp_of hT h
  unfold xX4_even at ez
  unfold xX5_even at ey
  by_cases c : 0 ≤ p0
  · rw [if_pos c, hg.2.1] at ez
    rw [if_pos c, hg.2.2.1] at ey
    have e := even_l hg p0 (mu 1 (nI g) + 1) 1 (by decide) (by decide)
    exact lp_out h ez ey e
  · rw [if_neg c] at ez ey
    exact ref_out h rf4 ez ey
theorem longer_l {T : Nat} {X R : St} {g : Nat} {gp : Nat → Int32} (hg : GP T X R g gp) (p : Int32) (hp : p = 0 ∨ p = 1) : ∀ (k j : Nat) (n : Int32), 1 ≤ j → j ≤ 1000 → (xX4_longer_l20 k X p n (nI j)).1 = (xX5_longer_l19 k R p n (nI j)).1 ∧ (xX4_longer_l20 k X p n (nI j)).2 = X ∧ (xX5_longer_l19 k R p n (nI j)).2 = R := by
  obtain ⟨g59, ga, gr, gi⟩ := hg
  intro k
  induction k with
  | zero =>
    intro j n _ _
    rw [xX4_longer_l20, xX5_longer_l19]
    exact ⟨rfl, rfl, rfl⟩
  | succ k ih =>
    intro j n h1 h2
    rw [xX4_longer_l20, xX5_longer_l19, ga, gr]
    by_cases c : nI g ≤ nI j
    · rw [if_pos c, if_pos c]
      exact ⟨rfl, rfl, rfl⟩
    · rw [if_neg c, if_neg c]
      have hj : j < g := nlt (by omega) (by omega) c
      obtain ⟨m, hm⟩ : ∃ m, j = m + 1 := ⟨j - 1, by omega⟩
      rw [hm] at hj ⊢
      rw [nI_pred, (gi (m + 1) hj).1, (gi (m + 1) hj).2.1, (gi m (by omega)).1, (gi m (by omega)).2.1]
      simp only [nm_eq]
      rw [nI_1]
      have go : ∀ n2 : Int32, (xX4_longer_l20 k X p n2 (nI (m + 1 + 1))).1 = (xX5_longer_l19 k R p n2 (nI (m + 1 + 1))).1 ∧ (xX4_longer_l20 k X p n2 (nI (m + 1 + 1))).2 = X ∧ (xX5_longer_l19 k R p n2 (nI (m + 1 + 1))).2 = R := fun n2 => ih (m + 1 + 1) n2 (by omega) (by omega)
      generalize gp (m + 1) - gp m = d
      rcases hp with hp | hp
      · by_cases w : d ≤ 0
        · have w2 : ¬ 0 < d := by
            rw [i_lt]
            exact Int32.le_iff_toInt_le.mp w
          rw [if_pos hp, if_pos w, if_pos hp, if_neg w2, if_neg (by rw [hp]; decide), Int32.add_zero]
          exact go n
        · have w2 : 0 < d := by
            rw [Int32.lt_iff_toInt_lt]
            exact i_le.mp w
          rw [if_pos hp, if_neg w, if_pos hp, if_pos w2]
          exact go (n + 1)
      · have p0 : ¬ p = 0 := by rw [hp]; decide
        by_cases w : 0 ≤ d
        · rw [if_neg p0, if_pos w, if_neg p0, if_pos hp, if_pos w, Int32.add_zero]
          exact go n
        · rw [if_neg p0, if_neg w, if_neg p0, if_pos hp, if_neg w]
          exact go (n + 1)
theorem C_longer {T : Nat} {X R : St} {p0 : Int32} {z y : Int32 × St} (hT : T ≤ 1000000000) (h : REL T X R) (ez : z = xX4_longer X p0) (ey : y = xX5_longer R p0) : OUT T z y := by
  obtain ⟨g, gp, hg⟩ := gp_of hT h
  unfold xX4_longer at ez
  unfold xX5_longer at ey
  rw [show (2 : Int32) = nI 2 from rfl] at ey
  have out : (p0 < 0 ∨ nI 2 ≤ p0) → OUT T z y := by
    intro q
    rw [isIn_0 q, if_pos rfl] at ey
    refine ref_out h rf2 ?_ ey
    by_cases c : p0 < 0
    · rw [if_pos c] at ez
      exact ez
    · have q2 := Int32.le_iff_toInt_le.mp (q.resolve_left c)
      rw [show (nI 2).toInt = 2 from rfl] at q2
      rw [if_neg c, if_neg (by rw [i_le, o32]; omega)] at ez
      exact ez
  rcases pk_ix p0 (n := 2) (by decide) with q | q | ⟨k, hk, q⟩
  · exact out (Or.inl q)
  · exact out (Or.inr q)
  · have ki : (nI k).toInt = k := nI_toInt (by omega)
    have hp : p0 = 0 ∨ p0 = 1 := by
      have k2 : k = 0 ∨ k = 1 := by omega
      rcases k2 with k2 | k2
      · exact Or.inl (by rw [q, k2]; rfl)
      · exact Or.inr (by rw [q, k2]; rfl)
    have c1 : ¬ p0 < 0 := by rw [q]; exact nI_pos (by omega)
    have c2 : p0 ≤ 1 := by rw [q, Int32.le_iff_toInt_le, o32, ki]; omega
    rw [if_neg c1, if_pos c2, hg.2.1] at ez
    have i1 : xX5_isIn p0 (nI 2) = 1 := by rw [q]; exact isIn_1 hk (by decide)
    rw [i1, if_neg (by decide), hg.2.2.1] at ey
    exact lp_out h ez ey (longer_l hg p0 hp (mu 1 (nI g) + 1) 1 0 (by decide) (by decide))
theorem slow_c {p q d : Int32} (hp : 0 ≤ p.toInt ∧ p.toInt ≤ 999) (hq : -2000000 ≤ q.toInt ∧ q.toInt ≤ 2000000) : (lg_cmp d.toInt64 ((p.toInt64 * q.toInt64) / 10) ≤ 0) ↔ d ≤ (p * q) / 10 := by
  rw [lg_cmp_le, Int64.le_iff_toInt_le, Int32.le_iff_toInt_le, Int32.toInt_toInt64]
  have m1 : p.toInt * q.toInt ≤ p.toInt * 2000000 := Int.mul_le_mul_of_nonneg_left hq.2 hp.1
  have m2 : p.toInt * (-2000000) ≤ p.toInt * q.toInt := Int.mul_le_mul_of_nonneg_left hq.1 hp.1
  have e1 : (p * q).toInt = p.toInt * q.toInt := i_mul (by omega) (by omega)
  have e2 : ((p * q) / 10).toInt = (p * q).toInt.tdiv 10 := Int32.toInt_div_of_ne_right _ _ (by decide)
  have e3 : (p.toInt64 * q.toInt64).toInt = p.toInt * q.toInt := by
    rw [Int64.toInt_mul, Int32.toInt_toInt64, Int32.toInt_toInt64, Int.bmod_eq_of_le] <;> omega
  have e4 : ((p.toInt64 * q.toInt64) / 10).toInt = (p.toInt64 * q.toInt64).toInt.tdiv 10 := Int64.toInt_div_of_ne_right _ _ (by decide)
  rw [e2, e1, e4, e3]
theorem slow_l {T : Nat} {X R : St} {g : Nat} {gp : Nat → Int32} (hT : T ≤ 2000000) (hg : GP T X R g gp) {p : Int32} (hp : 0 ≤ p.toInt ∧ p.toInt ≤ 999) {x9 : Int64} (e9 : 0 < g → x9 = (p.toInt64 * (gp 0).toInt64) / 10) : ∀ (k j : Nat), 1 ≤ j → j ≤ 1000 → (xX4_slow_l52 k X x9 (nI j)).1 = (xX5_slow_l21 k R p (nI j)).1 ∧ (xX4_slow_l52 k X x9 (nI j)).2 = X ∧ (xX5_slow_l21 k R p (nI j)).2 = R := by
  obtain ⟨g59, ga, gr, gi⟩ := hg
  intro k
  induction k with
  | zero =>
    intro j _ _
    rw [xX4_slow_l52, xX5_slow_l21]
    exact ⟨rfl, rfl, rfl⟩
  | succ k ih =>
    intro j h1 h2
    rw [xX4_slow_l52, xX5_slow_l21, ga, gr]
    by_cases c : nI g ≤ nI j
    · rw [if_pos c, if_pos c]
      exact ⟨rfl, rfl, rfl⟩
    · rw [if_neg c, if_neg c]
      have hj : j < g := nlt (by omega) (by omega) c
      have g0 := gi 0 (by omega)
      have sc := slow_c (p := p) (q := gp 0) (d := gp j) hp (by omega)
      rw [← e9 (by omega)] at sc
      rw [(gi j hj).1, (gi j hj).2.1, show (0 : Int32) = nI 0 from rfl, g0.2.1, show nI 0 = (0 : Int32) from rfl]
      by_cases d : gp j ≤ (p * gp 0) / 10
      · rw [if_pos (sc.mpr d), if_pos d, nm_eq, nm_eq, nI_1]
        exact ih (j + 1) (by omega) (by omega)
      · rw [if_neg (fun q => d (sc.mp q)), if_neg d]
        exact ⟨rfl, rfl, rfl⟩
theorem C_slow {T : Nat} {X R : St} {p0 : Int32} {z y : Int32 × St} (hT : T ≤ 2000000) (h : REL T X R) (ez : z = xX4_slow X p0) (ey : y = xX5_slow R p0) : OUT T z y := by
  obtain ⟨g, gp, hg⟩ := gp_of (by omega) h
  unfold xX4_slow at ez
  unfold xX5_slow at ey
  obtain ⟨a, ea, ez⟩ := nm_el ez
  obtain ⟨b, eb, ez⟩ := nm_el ez
  obtain ⟨w, ew, ey⟩ := nm_el ey
  refine guard_rel h (ew.trans (within_g ea eb)) ez ey (fun ha hb ez ey => ?_)
  have l1 := g_lo ea ha
  have l2 := g_lo eb hb
  obtain ⟨x9, e9, ez⟩ := nm_el ez
  rw [hg.2.1] at ez
  rw [hg.2.2.1] at ey
  refine lp_out h ez ey (slow_l hT hg ⟨l1, l2⟩ (fun q => ?_) (mu 1 (nI g) + 1) 1 (by decide) (by decide))
  rw [e9]
  have t : xX0_gapAt (sh 1 X) 0 = gp 0 := (hg.2.2.2 0 q).1
  rw [t]
theorem hour_c {d p : Int32} {x2 : Int64} (hd : 0 ≤ d.toInt) (hp : 0 ≤ p.toInt) (e : x2 = 100 * p.toInt64) : d / 100 = p ↔ ¬ (lg_cmp d.toInt64 x2 < 0) ∧ ¬ (0 ≤ lg_cmp d.toInt64 (x2 + 100)) := by
  rw [lg_cmp_lt, lg_cmp_ge, Int64.lt_iff_toInt_lt, Int64.le_iff_toInt_le, Int32.toInt_toInt64]
  have p1 := Int32.toInt_lt p
  have c100 : (100 : Int64).toInt = 100 := rfl
  have e1 : x2.toInt = 100 * p.toInt := by
    rw [e, Int64.toInt_mul, Int32.toInt_toInt64, c100, Int.bmod_eq_of_le] <;> omega
  have e2 : (x2 + 100).toInt = 100 * p.toInt + 100 := by
    rw [Int64.toInt_add, e1, c100, Int.bmod_eq_of_le] <;> omega
  have e3 := i_dv (a := d) (c := 100) 100 rfl (by decide) (by decide) hd
  rw [e1, e2]
  constructor
  · intro q
    rw [q] at e3
    omega
  · intro q
    apply Int32.toInt_inj.mp
    rw [e3]
    omega
theorem hour_l {T : Nat} {X R : St} (h : REL T X R) {p : Int32} (hp : 0 ≤ p.toInt) {x2 : Int64} (e2 : x2 = 100 * p.toInt64) {m : Nat} (hm : R 2 89 = nI m) (m60 : m ≤ 60) : ∀ (k j : Nat) (n : Int32), j ≤ 1000 → (xX4_hour_l24 k X x2 n (nI j)).1 = (xX5_hour_l15 k R p n (nI j)).1 ∧ (xX4_hour_l24 k X x2 n (nI j)).2 = X ∧ (xX5_hour_l15 k R p n (nI j)).2 = R := by
  have d1 : sh 11 X 0 1 = R 2 89 := h.1.1.2.2.2.1
  have d2 := h.1.1.2.2.2.2
  have db := h.1.2.2.2.2.2
  have es : xX1_size 60 (sh 11 X) = nI m := d1.trans hm
  have mi : (nI m).toInt = m := nI_toInt (by omega)
  intro k
  induction k with
  | zero =>
    intro j n _
    rw [xX4_hour_l24, xX5_hour_l15]
    exact ⟨rfl, rfl, rfl⟩
  | succ k ih =>
    intro j n h2
    rw [xX4_hour_l24, xX5_hour_l15, es, hm]
    by_cases c : nI m ≤ nI j
    · rw [if_pos c, if_pos c]
      exact ⟨rfl, rfl, rfl⟩
    · rw [if_neg c, if_neg c]
      have hj : j < m := nlt (by omega) (by omega) c
      have ji : (nI j).toInt = j := nI_toInt (by omega)
      have at_ : xX1_at 60 (sh 11 X) (nI j) = R 2 (29 + j) := by
        rw [at_in (S := sh 11 X) (d1.trans hm) (by rw [ji]; omega) c, ji]
        exact d2 j (by rw [hm, mi]; omega)
      have hd := db j (by rw [hm, mi]; omega)
      rw [at_, show (29 : Int32) = nI 29 from rfl, nI_add, nI_clamp (by omega)]
      simp only [nm_eq]
      rw [nI_1]
      have hc := hour_c (d := R 2 (29 + j)) hd.1 hp e2
      by_cases w1 : lg_cmp (R 2 (29 + j)).toInt64 x2 < 0
      · rw [if_pos w1, if_neg (fun q => (hc.mp q).1 w1), Int32.add_zero]
        exact ih (j + 1) n (by omega)
      · rw [if_neg w1]
        by_cases w2 : 0 ≤ lg_cmp (R 2 (29 + j)).toInt64 (x2 + 100)
        · rw [if_pos w2, if_neg (fun q => (hc.mp q).2 w2), Int32.add_zero]
          exact ih (j + 1) n (by omega)
        · rw [if_neg w2, if_pos (hc.mpr ⟨w1, w2⟩)]
          exact ih (j + 1) (n + 1) (by omega)
theorem C_hour {T : Nat} {X R : St} {p0 : Int32} {z y : Int32 × St} (h : REL T X R) (ez : z = xX4_hour X p0) (ey : y = xX5_hour R p0) : OUT T z y := by
  unfold xX4_hour at ez
  unfold xX5_hour at ey
  by_cases c : 0 ≤ p0
  · rw [if_pos c] at ez ey
    obtain ⟨x2, e2, ez⟩ := nm_el ez
    obtain ⟨⟨z1, z2⟩, -, -⟩ := h.1.2.1.1
    obtain ⟨m, hm, hm2⟩ : ∃ m : Nat, R 2 89 = nI m ∧ m ≤ 60 := ⟨(R 2 89).toInt.toNat, nIt z1, by omega⟩
    have es : xX1_size 60 (sh 11 X) = nI m := (show sh 11 X 0 1 = R 2 89 from h.1.1.2.2.2.1).trans hm
    rw [es] at ez
    rw [hm] at ey
    exact lp_out h ez ey (hour_l h (i0 c) e2 hm hm2 (mu 0 (nI m) + 1) 0 0 (by decide))
  · rw [if_neg c] at ez ey
    exact ref_out h rf4 ez ey
theorem C_dot {T : Nat} {X R : St} {p0 : Int32} {z y : Int32 × St} (h : REL T X R) (ez : z = xX4_dot X p0) (ey : y = xX5_dot R p0) : OUT T z y := by
  unfold xX4_dot at ez
  unfold xX5_dot at ey
  have d1 : sh 11 X 0 1 = R 2 89 := h.1.1.2.2.2.1
  have es : xX1_size 60 (sh 11 X) = R 2 89 := d1
  by_cases c : 0 ≤ p0
  · rw [if_pos c, es] at ez
    rw [if_pos c] at ey
    have c0 := i0 c
    by_cases d : R 2 89 ≤ p0
    · rw [if_pos d] at ez ey
      exact same_out h ez ey rfl
    · rw [if_neg d] at ez ey
      refine same_out h ez ey ?_
      have d' := i_le.mp d
      obtain ⟨⟨z1, z2⟩, -, -⟩ := h.1.2.1.1
      rw [at_in (S := sh 11 X) d1 c0 d, tnc, i_add (by rw [show (29 : Int32).toInt = 29 from rfl]; omega) (by rw [show (29 : Int32).toInt = 29 from rfl]; omega), show (29 : Int32).toInt = 29 from rfl]
      have e : (29 + p0.toInt).toNat = 29 + p0.toInt.toNat := by omega
      rw [e]
      exact h.1.1.2.2.2.2 _ (by omega)
  · rw [if_neg c] at ez ey
    exact ref_out h rf4 ez ey
