/-! book, phase 1: the form; phase 2: the STATEMENTS into the BOOK -/
theorem sh0 (M : St) : sh 0 M = M := by
  funext a
  unfold sh
  rw [Nat.zero_add]
noncomputable def ph2 (N : St) (x7 : Int32) : Int32 × St := nm (xX5_copies (sh2 2 1 6 N)) fun z9 => nm (put2 2 1 6 1 z9 N) fun M10 => nm (sa M10 0 (up (M10 0) 11 0)) fun M11 => xX5_reads_l53 (mu (M11 0 11) (M11 0 10) + 1) M11 x7
def RES1 (t : Nat → Int32) (n : Int32) (M N : St) (L E : Int32 × St) (v2 : Int32) : Prop := (L.1 = 0 ∧ (∀ c, c ≠ 0 → L.2 c = M c) ∧ E.1 = -1000 - L.2 0 1 ∧ FR2 N E.2) ∨ (∃ (M' N' : St) (m : Nat) (e : Int32), L = (1, M') ∧ (∀ c, c ≠ 0 → M' c = M c) ∧ Cn t n m (M 0 1) e ∧ ¬ e < n ∧ FR2 N N' ∧ E = ph2 N' (v2 + nI m))
def PH1 (t : Nat → Int32) (n : Int32) (k1 : Nat) : Prop := ∀ (k2 : Nat) (M N : St) (v2 : Int32) (i : Nat), TS (sh 1 M) t n → N 7 = t → N 0 10 = n → M 0 1 = N 0 11 → (i : Int) ≤ (M 0 1).toInt → 64 - i < k1 → i ≤ 64 → mu (M 0 1) n < k2 → RES1 t n M N (xX3_hasForm_l12 k1 M 1 (nI i)) (if M 0 1 < n then xX5_reads_l7 k2 N v2 else ph2 N v2) v2
theorem FR2.trans {A B C : St} (h : FR2 A B) (h2 : FR2 B C) : FR2 A C := ⟨fun c h0 h8 => (h2.1 c h0 h8).trans (h.1 c h0 h8), fun j hj => (h2.2 j hj).trans (h.2 j hj)⟩
theorem ph1_step {t : Nat → Int32} {n : Int32} {k1 : Nat} (IH : PH1 t n (k1 + 1)) {k2 : Nat} {M N : St} {v2 : Int32} {j : Nat} (ht : TS (sh 1 M) t n) (h7 : N 7 = t) (h10 : N 0 10 = n) (ha : M 0 1 = N 0 11) (h0 : 0 ≤ (M 0 1).toInt) (hj : rsok t n (M 0 1) → (j : Int) ≤ (rsend t n (M 0 1)).toInt ∧ 64 - j < k1 + 1 ∧ j ≤ 64) (hk : mu (M 0 1) n < k2 + 1) : RES1 t n M N (xX3_hasForm_l12 (k1 + 1) (xX3_readStatement M).2 (xX3_readStatement M).1 (nI j)) (xX5_reads_l7 (k2 + 1) N v2) v2 := by
  obtain ⟨z, ez⟩ : ∃ z, z = xX3_readStatement M := ⟨_, rfl⟩
  rw [← ez]
  obtain ⟨c1, c2, c3, c4⟩ := rsc ht h0 ez
  rw [xX5_reads_l7]
  obtain ⟨y, ey⟩ : ∃ y, y = xX5_readsStatement N := ⟨_, rfl⟩
  simp only [nm_eq]
  rw [← ey]
  obtain ⟨d1, d2, d3⟩ := rs_spec ey
  rw [h7, h10, ← ha] at d2 d3
  rcases c4 with ⟨g1, g2⟩ | ⟨g1, g2, g3, g4, g5⟩
  · rcases d3 with ⟨f1, f2⟩ | ⟨f1, f2, -⟩
    · rw [if_pos f1, g1]
      have l : xX3_hasForm_l12 (k1 + 1) z.2 0 (nI j) = (0, z.2) := by
        rw [xX3_hasForm_l12, if_pos rfl, ite_self]
      rw [l]
      refine Or.inl ⟨rfl, c1, ?_, d1⟩
      show -1000 - y.2 0 11 = -1000 - z.2 0 1
      rw [d2, c3]
    · exact absurd f2 g2
  · rcases d3 with ⟨f1, f2⟩ | ⟨f1, f2, -⟩
    · exact absurd g2 f2
    · rw [if_neg (by rw [f1]; decide), g1]
      obtain ⟨j1, j2, j3⟩ := hj g2
      have n64 := ht.2.1.2
      have adv := rs_adv n64 g2
      have an : M 0 1 < n := sg_lt2 (t := t) (fun q => by
        have := g2.1
        rw [q] at this
        exact absurd this (by unfold xX5_thingOf; decide))
      have an2 := Int32.lt_iff_toInt_lt.mp an
      have y10 : y.2 0 10 = n := by rw [d1.2 10 (by decide), h10]
      have y7 : y.2 7 = t := by rw [d1.1 7 (by decide) (by decide), h7]
      have r := IH k2 z.2 y.2 (v2 + 1) j (ht.fr c1) y7 y10 (by rw [c3, d2]) (by rw [c3]; exact j1) j2 j3 (by
        rw [c3]
        unfold mu at hk ⊢
        omega)
      rw [y10, d2]
      rw [c3] at r
      rcases r with ⟨r1, r2, r3, r4⟩ | ⟨M', N', m, e, r1, r2, r3, r4, r5, r6⟩
      · exact Or.inl ⟨r1, fun c hc => (r2 c hc).trans (c1 c hc), r3, d1.trans r4⟩
      · refine Or.inr ⟨M', N', m + 1, e, r1, fun c hc => (r2 c hc).trans (c1 c hc), ⟨g2, by rw [← c3]; exact r3⟩, r4, d1.trans r5, ?_⟩
        have e1 : v2 + 1 + nI m = v2 + nI (m + 1) := by rw [nI_succ, Int32.add_assoc, Int32.add_comm 1]
        rw [← e1, ← r6]
        rfl
theorem ph1_all {t : Nat → Int32} {n : Int32} : ∀ k1, PH1 t n k1 := by
  intro k1
  induction k1 with
  | zero => intro k2 M N v2 i _ _ _ _ _ hk; exact absurd hk (Nat.not_lt_zero _)
  | succ k1 ih =>
    intro k2 M N v2 i ht h7 h10 ha hi hk hi2 hk2
    have n64 := ht.2.1.2
    have es : xX1_size 64 (sh 1 M) = n := ht.1
    have ii : (nI i).toInt = i := nI_toInt (by omega)
    by_cases an : M 0 1 < n
    · have an2 := Int32.lt_iff_toInt_lt.mp an
      rw [if_pos an, xX3_hasForm_l12, if_neg (show ¬ (64 : Int32) ≤ nI i by rw [i_le, ii, show (64 : Int32).toInt = 64 from rfl]; omega), if_neg (show ¬ (1 : Int32) = 0 by decide), es, if_neg (show ¬ n ≤ M 0 1 by rw [i_le]; exact an2)]
      simp only [nm_eq]
      rw [nI_1]
      obtain ⟨k1', rfl⟩ : ∃ k, k1 = k + 1 := ⟨k1 - 1, by omega⟩
      obtain ⟨k2', rfl⟩ : ∃ k, k2 = k + 1 := ⟨k2 - 1, by omega⟩
      refine ph1_step ih ht h7 h10 ha (by omega) (fun g => ?_) hk2
      have adv := rs_adv n64 g
      exact ⟨by omega, by omega, by omega⟩
    · have an2 := i_lt.mp an
      rw [if_neg an]
      have l : xX3_hasForm_l12 (k1 + 1) M 1 (nI i) = (1, M) := by
        rw [xX3_hasForm_l12, es, if_neg (show ¬ (1 : Int32) = 0 by decide), if_pos (show n ≤ M 0 1 by rw [Int32.le_iff_toInt_le]; exact an2), ite_self]
      rw [l]
      exact Or.inr ⟨M, N, 0, M 0 1, rfl, fun _ _ => rfl, rfl, an, ⟨fun _ _ _ => rfl, fun _ _ => rfl⟩, by rw [nI_0, Int32.add_zero]⟩
theorem cn_len {t : Nat → Int32} {n : Int32} (hn : n.toInt ≤ 64) : ∀ (m : Nat) (a e : Int32), Cn t n m a e → m = 0 ∨ a.toInt + m ≤ n.toInt := by
  intro m
  induction m with
  | zero => intro a e _; exact Or.inl rfl
  | succ m ih =>
    intro a e h
    right
    have an : a < n := sg_lt2 (t := t) (fun q => by
      have := h.1.1
      rw [q] at this
      exact absurd this (by unfold xX5_thingOf; decide))
    have an2 := Int32.lt_iff_toInt_lt.mp an
    have adv := rs_adv hn h.1
    rcases ih _ _ h.2 with q | q
    · omega
    · omega
theorem cadd {n : Nat} {S z : St} {x p : Int32} {m : Nat} (hn : n < 2 ^ 31) (h : S 0 1 = x) (hx : x.toInt = m) (hm : m < n) (ez : z = xX1_add n S p) : z 0 1 = x + 1 ∧ z 1 = up (S 1) m p ∧ ∀ c, c ≠ 0 → c ≠ 1 → z c = S c := by
  unfold xX1_add at ez
  rw [h, if_neg (by rw [i_le, nI_toInt hn]; omega)] at ez
  simp only [nm_eq] at ez
  have hc : x.toNatClampNeg = m := by rw [tnc, hx]; rfl
  rw [hc] at ez
  refine ⟨?_, ?_, fun c h0 h1 => ?_⟩
  · rw [ez, sa_eq, up_eq, sa_ne (by decide), h]
  · rw [ez, sa_ne (by decide), sa_eq]
  · rw [ez, sa_ne h0, sa_ne h1]
theorem hadd {S z : St} {x p0 p1 p2 : Int32} {m : Nat} (hx : x.toInt = m) (hm : m < 20) (s1 : S 1 1 = x) (s3 : S 3 1 = x) (s5 : S 5 1 = x) (ez : z = xX2_add S p0 p1 p2) : (z 1 1 = x + 1 ∧ z 3 1 = x + 1 ∧ z 5 1 = x + 1) ∧ z 2 = up (S 2) m p0 ∧ z 4 = up (S 4) m p1 ∧ z 6 = up (S 6) m p2 := by
  unfold xX2_add at ez
  obtain ⟨y1, f1, ez⟩ := nm_el ez
  obtain ⟨M2, e2, ez⟩ := nm_el ez
  obtain ⟨y3, f3, ez⟩ := nm_el ez
  obtain ⟨M4, e4, ez⟩ := nm_el ez
  obtain ⟨y5, f5, ez⟩ := nm_el ez
  obtain ⟨M6, e6, ez⟩ := nm_el ez
  obtain ⟨a1, a2, a3⟩ := cadd (n := 20) (S := sh 1 S) (by decide) s1 hx hm f1
  have m2 : ∀ c, c ≠ 1 → c ≠ 2 → M2 c = S c := fun c h h' => by rw [e2, put_out (by omega)]
  have m21 : M2 1 = y1 0 := by rw [e2]; exact put_in (by decide) (by decide)
  have m22 : M2 2 = y1 1 := by rw [e2]; exact put_in (by decide) (by decide)
  obtain ⟨b1, b2, b3⟩ := cadd (n := 20) (S := sh 3 M2) (by decide) (by show M2 3 1 = x; rw [m2 3 (by decide) (by decide)]; exact s3) hx hm f3
  have m4 : ∀ c, c ≠ 3 → c ≠ 4 → M4 c = M2 c := fun c h h' => by rw [e4, put_out (by omega)]
  have m43 : M4 3 = y3 0 := by rw [e4]; exact put_in (by decide) (by decide)
  have m44 : M4 4 = y3 1 := by rw [e4]; exact put_in (by decide) (by decide)
  obtain ⟨d1, d2, d3⟩ := cadd (n := 20) (S := sh 5 M4) (by decide) (by show M4 5 1 = x; rw [m4 5 (by decide) (by decide), m2 5 (by decide) (by decide)]; exact s5) hx hm f5
  have m6 : ∀ c, c ≠ 5 → c ≠ 6 → M6 c = M4 c := fun c h h' => by rw [e6, put_out (by omega)]
  have m65 : M6 5 = y5 0 := by rw [e6]; exact put_in (by decide) (by decide)
  have m66 : M6 6 = y5 1 := by rw [e6]; exact put_in (by decide) (by decide)
  rw [ez]
  refine ⟨⟨?_, ?_, ?_⟩, ?_, ?_, ?_⟩
  · rw [m6 1 (by decide) (by decide), m4 1 (by decide) (by decide), m21, a1]
  · rw [m6 3 (by decide) (by decide), m43, b1]
  · rw [m65, d1]
  · rw [m6 2 (by decide) (by decide), m4 2 (by decide) (by decide), m22, a2]
    rfl
  · rw [m6 4 (by decide) (by decide), m44, b2]
    show up (M2 4) m p1 = up (S 4) m p1
    rw [m2 4 (by decide) (by decide)]
  · rw [m66, d2]
    show up (M4 6) m p2 = up (S 6) m p2
    rw [m4 6 (by decide) (by decide), m2 6 (by decide) (by decide)]
theorem ccut {S y : St} {x : Int32} {s : Nat} (hs : s ≤ 20) (h0 : (s : Int) ≤ (S 0 1).toInt) (hx : x = nI s) (e : y = xX1_cutTo 20 S x) : y 0 1 = nI s ∧ ∀ c, c ≠ 0 → y c = S c := by
  have si : (nI s).toInt = s := nI_toInt (by omega)
  unfold xX1_cutTo at e
  rw [hx, if_neg (nI_pos (by omega))] at e
  by_cases c : S 0 1 ≤ nI s
  · rw [if_pos c] at e
    have c2 := Int32.le_iff_toInt_le.mp c
    rw [e]
    exact ⟨Int32.toInt_inj.mp (by omega), fun _ _ => rfl⟩
  · rw [if_neg c, nm_eq] at e
    rw [e]
    exact ⟨by rw [sa_eq, up_eq], fun c hc => sa_ne hc⟩
theorem hcut {S z : St} {x : Int32} {s : Nat} (hs : s ≤ 20) (h1 : (s : Int) ≤ (S 1 1).toInt) (h3 : (s : Int) ≤ (S 3 1).toInt) (h5 : (s : Int) ≤ (S 5 1).toInt) (hx : x = nI s) (ez : z = xX2_cutTo S x) : (z 1 1 = nI s ∧ z 3 1 = nI s ∧ z 5 1 = nI s) ∧ z 2 = S 2 ∧ z 4 = S 4 ∧ z 6 = S 6 := by
  unfold xX2_cutTo at ez
  obtain ⟨y1, f1, ez⟩ := nm_el ez
  obtain ⟨M2, e2, ez⟩ := nm_el ez
  obtain ⟨y3, f3, ez⟩ := nm_el ez
  obtain ⟨M4, e4, ez⟩ := nm_el ez
  obtain ⟨y5, f5, ez⟩ := nm_el ez
  obtain ⟨M6, e6, ez⟩ := nm_el ez
  obtain ⟨a1, a2⟩ := ccut (S := sh 1 S) hs h1 hx f1
  have m2 : ∀ c, c ≠ 1 → c ≠ 2 → M2 c = S c := fun c h h' => by rw [e2, put_out (by omega)]
  have m21 : M2 1 = y1 0 := by rw [e2]; exact put_in (by decide) (by decide)
  have m22 : M2 2 = y1 1 := by rw [e2]; exact put_in (by decide) (by decide)
  obtain ⟨b1, b2⟩ := ccut (S := sh 3 M2) hs (by show (s : Int) ≤ (M2 3 1).toInt; rw [m2 3 (by decide) (by decide)]; exact h3) hx f3
  have m4 : ∀ c, c ≠ 3 → c ≠ 4 → M4 c = M2 c := fun c h h' => by rw [e4, put_out (by omega)]
  have m43 : M4 3 = y3 0 := by rw [e4]; exact put_in (by decide) (by decide)
  have m44 : M4 4 = y3 1 := by rw [e4]; exact put_in (by decide) (by decide)
  obtain ⟨d1, d2⟩ := ccut (S := sh 5 M4) hs (by show (s : Int) ≤ (M4 5 1).toInt; rw [m4 5 (by decide) (by decide), m2 5 (by decide) (by decide)]; exact h5) hx f5
  have m6 : ∀ c, c ≠ 5 → c ≠ 6 → M6 c = M4 c := fun c h h' => by rw [e6, put_out (by omega)]
  have m65 : M6 5 = y5 0 := by rw [e6]; exact put_in (by decide) (by decide)
  have m66 : M6 6 = y5 1 := by rw [e6]; exact put_in (by decide) (by decide)
  rw [ez]
  refine ⟨⟨?_, ?_, ?_⟩, ?_, ?_, ?_⟩
  · rw [m6 1 (by decide) (by decide), m4 1 (by decide) (by decide), m21, a1]
  · rw [m6 3 (by decide) (by decide), m43, b1]
  · rw [m65, d1]
  · rw [m6 2 (by decide) (by decide), m4 2 (by decide) (by decide), m22, a2 1 (by decide)]
    rfl
  · rw [m6 4 (by decide) (by decide), m44, b2 1 (by decide)]
    show M2 4 = S 4
    rw [m2 4 (by decide) (by decide)]
  · rw [m66, d2 1 (by decide)]
    show M4 6 = S 6
    rw [m4 6 (by decide) (by decide), m2 6 (by decide) (by decide)]
theorem thing_k {y : Int32} (h : 0 ≤ xX5_thingOf y) : ∃ k : Nat, k < 15 ∧ xX5_thingOf y = nI k := by
  revert h
  unfold xX5_thingOf
  by_cases a : y = 100
  · rw [if_pos a]; exact fun _ => ⟨8, by decide, rfl⟩
  · rw [if_neg a]
    by_cases b : y = 108
    · rw [if_pos b]; exact fun _ => ⟨10, by decide, rfl⟩
    · rw [if_neg b]
      by_cases c : y = 114
      · rw [if_pos c]; exact fun _ => ⟨11, by decide, rfl⟩
      · rw [if_neg c]
        by_cases d : y = 119
        · rw [if_pos d]; exact fun _ => ⟨9, by decide, rfl⟩
        · rw [if_neg d]; exact fun h => absurd h (by decide)
theorem in_rng {k : Nat} (hk : k < 15) (v : Int32) : xX4_isInRange (nI k) v = 0 ↔ ¬ xX5_within v (xX5_leastOf (nI k)) (xX5_mostOf (nI k)) = 0 := by
  unfold xX4_isInRange
  rw [num_eq _ hk, num_eq _ hk, least_eq k hk, most_eq k hk]
  exact inr
theorem w126 {N : St} {x7 : Int32} {P : Nat} (hP : N 6 150 = nI P) (hP2 : P < 20) : ∃ L : St, xX5_reads_l126 4 N x7 0 = L ∧ L 6 = up (up (up (N 6) (90 + 3 * P) (N 8 0)) (90 + 3 * P + 1) (N 8 1)) (90 + 3 * P + 2) (N 8 2) ∧ ∀ c, c ≠ 6 → L c = N c := by
  have ix : ∀ (A : St) (j : Nat), A 6 150 = nI P → j < 3 → (90 + 3 * A 6 150 + nI j : Int32).toNatClampNeg = 90 + 3 * P + j := by
    intro A j hA hj
    rw [hA, show (90 : Int32) = nI 90 from rfl, show (3 : Int32) = nI 3 from rfl, pk_mul, nI_add, nI_add, nI_clamp (by omega)]
  obtain ⟨A1, a1⟩ : ∃ A, A = sa N 6 (up (N 6) (90 + 3 * P + 0) (N 8 0)) := ⟨_, rfl⟩
  obtain ⟨A2, a2⟩ : ∃ A, A = sa A1 6 (up (A1 6) (90 + 3 * P + 1) (A1 8 1)) := ⟨_, rfl⟩
  obtain ⟨A3, a3⟩ : ∃ A, A = sa A2 6 (up (A2 6) (90 + 3 * P + 2) (A2 8 2)) := ⟨_, rfl⟩
  have p1 : A1 6 150 = nI P := by rw [a1, sa_eq, up_ne (by omega), hP]
  have p2 : A2 6 150 = nI P := by rw [a2, sa_eq, up_ne (by omega), p1]
  refine ⟨A3, ?_, ?_, fun c hc => by rw [a3, sa_ne hc, a2, sa_ne hc, a1, sa_ne hc]⟩
  · have z0 : (0 : Int32) = nI 0 := rfl
    rw [z0, xX5_reads_l126, if_neg (show ¬ (3 : Int32) ≤ nI 0 by decide), nm_eq, nm_eq, ix N 0 hP (by decide), show (nI 0).toNatClampNeg = 0 from rfl, ← a1, nI_1]
    rw [xX5_reads_l126, if_neg (show ¬ (3 : Int32) ≤ nI (0 + 1) by decide), nm_eq, nm_eq, ix A1 (0 + 1) p1 (by decide), show (nI (0 + 1)).toNatClampNeg = 1 from rfl, ← a2, nI_1]
    rw [xX5_reads_l126, if_neg (show ¬ (3 : Int32) ≤ nI (0 + 1 + 1) by decide), nm_eq, nm_eq, ix A2 (0 + 1 + 1) p2 (by decide), show (nI (0 + 1 + 1)).toNatClampNeg = 2 from rfl, ← a3, nI_1]
    rw [xX5_reads_l126, if_pos (show (3 : Int32) ≤ nI (0 + 1 + 1 + 1) by decide)]
  · have b8 : A1 8 = N 8 := by rw [a1, sa_ne (by decide)]
    have c8 : A2 8 = N 8 := by rw [a2, sa_ne (by decide), b8]
    have b6 : A1 6 = up (N 6) (90 + 3 * P) (N 8 0) := by rw [a1, sa_eq, Nat.add_zero]
    have c6 : A2 6 = up (up (N 6) (90 + 3 * P) (N 8 0)) (90 + 3 * P + 1) (N 8 1) := by rw [a2, sa_eq, b6, b8]
    rw [a3, sa_eq, c6, c8]
/-- the first s entries of the class's book are the row's -/
def PB (M : St) (r0 : Nat → Int32) (s : Nat) : Prop := ∀ j, j < s → M 5 j = r0 (90 + 3 * j) ∧ M 7 j = r0 (90 + 3 * j + 1) ∧ M 9 j = r0 (90 + 3 * j + 2)
def OK2 (r0 : Nat → Int32) (s0 : Nat) (M N : St) (L E : Int32 × St) (x7 : Int32) (P q : Nat) : Prop := (∃ (M' N' : St), L = (nI (P + q) - nI s0, M') ∧ E = (nm (xX5_copies (sh2 6 1 2 N')) fun z14 => nm (put2 6 1 2 1 z14 N') fun M15 => (x7, M15)) ∧ BK M' (N' 6) ∧ N' 6 150 = nI (P + q) ∧ P + q ≤ 20 ∧ (∀ c, c ≠ 0 → c ≠ 6 → c ≠ 8 → N' c = N c) ∧ (∀ j, j ≠ 11 → N' 0 j = N 0 j) ∧ (∀ j, j < 90 → N' 6 j = N 6 j)) ∨ (∃ (u : Int32) (M' N' : St), L = (u, M') ∧ E = (u, N') ∧ (M' 4 1 = nI s0 ∧ M' 6 1 = nI s0 ∧ M' 8 1 = nI s0) ∧ PB M' r0 s0 ∧ (∀ c, c ≠ 0 → c ≠ 6 → c ≠ 8 → N' c = N c) ∧ (∀ j, j ≠ 11 → N' 0 j = N 0 j))
theorem ph2_fail {M12 : St} {r0 : Nat → Int32} {s0 P : Nat} {x4 : Int32} (hx : x4 = nI s0) (hs : s0 ≤ P) (hP : P ≤ 20) (b1 : M12 4 1 = nI P) (b2 : M12 6 1 = nI P) (b3 : M12 8 1 = nI P) (hb : PB M12 r0 s0) : ∃ M', xX3_readInto_j78 M12 x4 = (-2000 - M12 0 2, M') ∧ (M' 4 1 = nI s0 ∧ M' 6 1 = nI s0 ∧ M' 8 1 = nI s0) ∧ PB M' r0 s0 := by
  have Pi : (nI P).toInt = P := nI_toInt (by omega)
  unfold xX3_readInto_j78
  obtain ⟨z14, e14⟩ : ∃ z, z = xX2_cutTo (sh 3 M12) x4 := ⟨_, rfl⟩
  obtain ⟨M15, e15⟩ : ∃ M, M = put 3 7 z14 M12 := ⟨_, rfl⟩
  simp only [nm_eq]
  rw [← e14, ← e15]
  obtain ⟨⟨c1, c2, c3⟩, c4, c5, c6⟩ := hcut (S := sh 3 M12) (by omega) (by show (s0 : Int) ≤ (M12 4 1).toInt; rw [b1, Pi]; omega) (by show (s0 : Int) ≤ (M12 6 1).toInt; rw [b2, Pi]; omega) (by show (s0 : Int) ≤ (M12 8 1).toInt; rw [b3, Pi]; omega) hx e14
  have p : ∀ c, c < 7 → M15 (3 + c) = z14 c := by
    intro c hc
    rw [e15, put_in (by omega) (by omega)]
    congr 1
    omega
  have p0 : M15 0 = M12 0 := by rw [e15, put_out (by omega)]
  refine ⟨M15, by rw [p0], ⟨?_, ?_, ?_⟩, fun j hj => ?_⟩
  · rw [← c1]; exact congrFun (p 1 (by decide)) 1
  · rw [← c2]; exact congrFun (p 3 (by decide)) 1
  · rw [← c3]; exact congrFun (p 5 (by decide)) 1
  · have q5 : M15 5 = M12 5 := (p 2 (by decide)).trans c4
    have q7 : M15 7 = M12 7 := (p 4 (by decide)).trans c5
    have q9 : M15 9 = M12 9 := (p 6 (by decide)).trans c6
    rw [q5, q7, q9]
    exact hb j hj
theorem ph2_l {t : Nat → Int32} {n : Int32} {r0 : Nat → Int32} {s0 : Nat} {x7 : Int32} : ∀ (q k1 k2 : Nat) (M N : St) (i P : Nat) (e : Int32), TS (sh 1 M) t n → N 7 = t → N 0 10 = n → M 0 1 = N 0 11 → (i : Int) ≤ (M 0 1).toInt → Cn t n q (M 0 1) e → ¬ e < n → q < k1 → q < k2 → BK M (N 6) → N 6 150 = nI P → P ≤ 20 → s0 ≤ P → PB M r0 s0 → OK2 r0 s0 M N (xX3_readInto_l28 k1 M (nI s0) (nI i)) (xX5_reads_l53 k2 N x7) x7 P q := by
  intro q
  induction q with
  | zero =>
    intro k1 k2 M N i P e ht h7 h10 ha hi hc he hk1 hk2 hb hP hP2 hs hpb
    obtain ⟨k1', rfl⟩ : ∃ k, k1 = k + 1 := ⟨k1 - 1, by omega⟩
    obtain ⟨k2', rfl⟩ : ∃ k, k2 = k + 1 := ⟨k2 - 1, by omega⟩
    have es : xX1_size 64 (sh 1 M) = n := ht.1
    have hc : M 0 1 = e := hc
    rw [← hc] at he
    have he2 := i_lt.mp he
    left
    refine ⟨M, N, ?_, ?_, hb, hP, hP2, fun _ _ _ _ => rfl, fun _ _ => rfl, fun _ _ => rfl⟩
    · rw [xX3_readInto_l28, es, if_pos (show n ≤ M 0 1 by rw [Int32.le_iff_toInt_le]; exact he2), ite_self]
      unfold xX3_readInto_j114 xX2_size xX1_size
      have b1 : M 4 1 = nI P := hb.1.trans hP
      rw [Nat.add_zero, ← b1]
      rfl
    · rw [xX5_reads_l53, h10, ← ha, if_pos (show n ≤ M 0 1 by rw [Int32.le_iff_toInt_le]; exact he2)]
  | succ q ih =>
    intro k1 k2 M N i P e ht h7 h10 ha hi hc he hk1 hk2 hb hP hP2 hs hpb
    obtain ⟨k1', rfl⟩ : ∃ k, k1 = k + 1 := ⟨k1 - 1, by omega⟩
    obtain ⟨k2', rfl⟩ : ∃ k, k2 = k + 1 := ⟨k2 - 1, by omega⟩
    have es : xX1_size 64 (sh 1 M) = n := ht.1
    have n64 := ht.2.1.2
    obtain ⟨g, hc⟩ : rsok t n (M 0 1) ∧ Cn t n q (rsend t n (M 0 1)) e := hc
    have adv := rs_adv n64 g
    have an : M 0 1 < n := sg_lt2 (t := t) (fun q => by
      have := g.1
      rw [q] at this
      exact absurd this (by unfold xX5_thingOf; decide))
    have an2 := Int32.lt_iff_toInt_lt.mp an
    have ii : (nI i).toInt = i := nI_toInt (by omega)
    have Pi : (nI P).toInt = P := nI_toInt (by omega)
    rw [xX3_readInto_l28, es, if_neg (show ¬ (64 : Int32) ≤ nI i by rw [i_le, ii, show (64 : Int32).toInt = 64 from rfl]; omega), if_neg (show ¬ n ≤ M 0 1 by rw [i_le]; exact an2), sh0]
    rw [xX5_reads_l53, h10, ← ha, if_neg (show ¬ n ≤ M 0 1 by rw [i_le]; exact an2)]
    obtain ⟨z, ez⟩ : ∃ z, z = xX3_readStatement M := ⟨_, rfl⟩
    obtain ⟨M12, e12⟩ : ∃ A, A = put 0 3 z.2 M := ⟨_, rfl⟩
    obtain ⟨y, ey⟩ : ∃ y, y = xX5_readsStatement N := ⟨_, rfl⟩
    simp only [nm_eq]
    rw [← ez, ← e12, ← ey]
    obtain ⟨c1, c2, c3, c4⟩ := rsc ht (by omega) ez
    obtain ⟨d1, d2, d3⟩ := rs_spec ey
    rw [h7, h10, ← ha] at d2 d3
    have c4 := c4.resolve_left (fun q => q.2 g)
    have d3 := d3.resolve_left (fun q => q.2 g)
    obtain ⟨z1, -, z3, z4, z5⟩ := c4
    obtain ⟨y1, -, y3, y4, y5⟩ := d3
    have m0 : M12 0 = z.2 0 := by rw [e12]; exact put_in (by decide) (by decide)
    have mc : ∀ c, c ≠ 0 → M12 c = M c := by
      intro c hc0
      by_cases w : c < 3
      · rw [e12, put_in (Nat.zero_le _) (by omega)]
        rw [Nat.sub_zero]
        exact c1 c hc0
      · rw [e12, put_out (by omega)]
    rw [← m0] at c2 c3 z3 z4 z5
    obtain ⟨k, hk, ek⟩ := thing_k g.1
    rw [z1, if_neg (show ¬ (1 : Int32) = 0 by decide), z3, z5, y3, y5, ek]
    have b1 : M12 4 1 = nI P := by rw [mc 4 (by decide)]; exact hb.1.trans hP
    have b2 : M12 6 1 = nI P := by rw [mc 6 (by decide)]; exact hb.2.1.trans hP
    have b3 : M12 8 1 = nI P := by rw [mc 8 (by decide)]; exact hb.2.2.1.trans hP
    have pb12 : PB M12 r0 s0 := fun j hj => by rw [mc 5 (by decide), mc 7 (by decide), mc 9 (by decide)]; exact hpb j hj
    have fr1 : ∀ c, c ≠ 0 → c ≠ 6 → c ≠ 8 → y.2 c = N c := fun c h0 _ h8 => d1.1 c h0 h8
    have fail : OK2 r0 s0 M N (xX3_readInto_j78 M12 (nI s0)) (-2000 - M 0 1, y.2) x7 P (q + 1) := by
      obtain ⟨M', f1, f2, f3⟩ := ph2_fail (x4 := nI s0) rfl hs hP2 b1 b2 b3 pb12
      exact Or.inr ⟨-2000 - M 0 1, M', y.2, by rw [f1, c2], rfl, f2, f3, fr1, d1.2⟩
    by_cases w : xX5_within (rsB t n (M 0 1)).1 (xX5_leastOf (nI k)) (xX5_mostOf (nI k)) = 0
    · rw [if_neg (fun q => (in_rng hk _).mp q w), if_pos w]
      have sz : xX2_size (sh 3 M12) = nI P := b1
      have y6 : y.2 6 = N 6 := d1.1 6 (by decide) (by decide)
      rw [sz, y6, hP]
      by_cases p20 : P = 20
      · rw [if_neg (show ¬ nI P < 20 by rw [i_lt, Pi, show (20 : Int32).toInt = 20 from rfl]; omega), if_pos (show nI P = 20 by rw [p20]; rfl)]
        exact fail
      · rw [if_pos (show nI P < 20 by rw [Int32.lt_iff_toInt_lt, Pi, show (20 : Int32).toInt = 20 from rfl]; omega), if_neg (fun q => p20 ((nI_eq (by omega) (by decide)).mp (q.trans (rfl : (20 : Int32) = nI 20))))]
        obtain ⟨z19, e19⟩ : ∃ z, z = xX2_add (sh 3 M12) (nI k) (M12 0 4) (rsB t n (M 0 1)).1 := ⟨_, rfl⟩
        obtain ⟨M20, e20⟩ : ∃ A, A = put 3 7 z19 M12 := ⟨_, rfl⟩
        rw [← e19, ← e20, nI_1]
        obtain ⟨⟨a1, a2, a3⟩, a4, a5, a6⟩ := hadd (S := sh 3 M12) (x := nI P) Pi (by omega) b1 b2 b3 e19
        obtain ⟨L, l1, l2, l3⟩ := w126 (N := y.2) (x7 := x7) (P := P) (by rw [y6]; exact hP) (by omega)
        have f4 : mu 0 3 + 1 = 4 := by decide +kernel
        rw [f4, l1]
        obtain ⟨N24, e24⟩ : ∃ A, A = sa L 6 (up (L 6) 150 (L 6 150 + 1)) := ⟨_, rfl⟩
        rw [← e24]
        have mp : ∀ c, c < 7 → M20 (3 + c) = z19 c := by
          intro c hc
          rw [e20, put_in (by omega) (by omega)]
          congr 1
          omega
        have mo : ∀ c, c < 3 → M20 c = M12 c := fun c hc => by rw [e20, put_out (by omega)]
        have L150 : L 6 150 = nI P := by rw [l2, up_ne (by omega), up_ne (by omega), up_ne (by omega), y6, hP]
        have n150 : N24 6 150 = nI (P + 1) := by rw [e24, sa_eq, up_eq, L150, nI_1]
        have n6 : ∀ j, j ≠ 150 → N24 6 j = L 6 j := fun j hj => by rw [e24, sa_eq, up_ne hj]
        have nc : ∀ c, c ≠ 6 → N24 c = y.2 c := fun c hc => by rw [e24, sa_ne hc, l3 c hc]
        have t20 : TS (sh 1 M20) t n := by
          obtain ⟨t1, t2, t3⟩ := ht
          refine ⟨?_, t2, fun j hj => ?_⟩
          · show M20 1 1 = n
            rw [mo 1 (by decide), mc 1 (by decide)]; exact t1
          · show M20 2 j = t j
            rw [mo 2 (by decide), mc 2 (by decide)]; exact t3 j hj
        have m20 : M20 0 1 = rsend t n (M 0 1) := by rw [mo 0 (by decide), c3]
        have q5 : M20 5 = up (M 5) P (nI k) := by
          rw [show M20 5 = z19 2 from mp 2 (by decide), a4]
          show up (M12 5) P (nI k) = _
          rw [mc 5 (by decide)]
        have q7 : M20 7 = up (M 7) P (M12 0 4) := by
          rw [show M20 7 = z19 4 from mp 4 (by decide), a5]
          show up (M12 7) P (M12 0 4) = _
          rw [mc 7 (by decide)]
        have q9 : M20 9 = up (M 9) P (rsB t n (M 0 1)).1 := by
          rw [show M20 9 = z19 6 from mp 6 (by decide), a6]
          show up (M12 9) P (rsB t n (M 0 1)).1 = _
          rw [mc 9 (by decide)]
        have P1i : (nI (P + 1)).toInt = P + 1 := nI_toInt (by omega)
        have bk20 : BK M20 (N24 6) := by
          refine ⟨?_, ?_, ?_, fun j hj => ?_⟩
          · rw [n150, show M20 4 = z19 1 from mp 1 (by decide), a1, nI_1]
          · rw [n150, show M20 6 = z19 3 from mp 3 (by decide), a2, nI_1]
          · rw [n150, show M20 8 = z19 5 from mp 5 (by decide), a3, nI_1]
          · rw [n150, P1i] at hj
            rw [q5, q7, q9, n6 _ (by omega), n6 _ (by omega), n6 _ (by omega), l2, y6, y3, y4, y5, ek, z4]
            by_cases c : j = P
            · rw [c]
              refine ⟨?_, ?_, ?_⟩
              · rw [up_eq, up_ne (by omega), up_ne (by omega), up_eq]
              · rw [up_eq, up_ne (by omega), up_eq]
              · rw [up_eq, up_eq]
            · obtain ⟨k1, k2, k3⟩ := hb.2.2.2 j (by rw [hP, Pi]; omega)
              refine ⟨?_, ?_, ?_⟩
              · rw [up_ne c, up_ne (by omega), up_ne (by omega), up_ne (by omega)]; exact k1
              · rw [up_ne c, up_ne (by omega), up_ne (by omega), up_ne (by omega)]; exact k2
              · rw [up_ne c, up_ne (by omega), up_ne (by omega), up_ne (by omega)]; exact k3
        have pb20 : PB M20 r0 s0 := by
          intro j hj
          rw [q5, q7, q9, up_ne (by omega), up_ne (by omega), up_ne (by omega)]
          exact hpb j hj
        have r := ih k1' k2' M20 N24 (i + 1) (P + 1) e t20 (by rw [nc 7 (by decide), d1.1 7 (by decide) (by decide), h7]) (by rw [nc 0 (by decide), d1.2 10 (by decide), h10]) (by rw [m20, nc 0 (by decide), d2]) (by rw [m20]; omega) (by rw [m20]; exact hc) he (by omega) (by omega) bk20 n150 (by omega) (by omega) pb20
        have j90 : ∀ j, j < 90 → N24 6 j = N 6 j := fun j hj => by rw [n6 j (by omega), l2, up_ne (by omega), up_ne (by omega), up_ne (by omega), y6]
        have jc : ∀ c, c ≠ 0 → c ≠ 6 → c ≠ 8 → N24 c = N c := fun c h0 h6 h8 => (nc c h6).trans (d1.1 c h0 h8)
        have j0 : ∀ j, j ≠ 11 → N24 0 j = N 0 j := fun j hj => by rw [nc 0 (by decide), d1.2 j hj]
        rcases r with ⟨M', N', r1, r2, r3, r4, r5, r6, r7, r8⟩ | ⟨u, M', N', r1, r2, r3, r4, r5, r6⟩
        · rw [show P + 1 + q = P + (q + 1) by omega] at r1 r4 r5
          exact Or.inl ⟨M', N', r1, r2, r3, r4, r5, fun c h0 h6 h8 => (r6 c h0 h6 h8).trans (jc c h0 h6 h8), fun j hj => (r7 j hj).trans (j0 j hj), fun j hj => (r8 j hj).trans (j90 j hj)⟩
        · exact Or.inr ⟨u, M', N', r1, r2, r3, r4, fun c h0 h6 h8 => (r5 c h0 h6 h8).trans (jc c h0 h6 h8), fun j hj => (r6 j hj).trans (j0 j hj)⟩
    · rw [if_pos ((in_rng hk _).mpr w), if_neg w]
      exact fail
/-! book: the call -/
theorem bk_fin {T : Nat} {X R M' X5 R5 : St} (h : REL T X R) (hb : BK M' (R5 2)) (hp : 0 ≤ (R5 2 150).toInt ∧ (R5 2 150).toInt ≤ 20) (hq : ∀ j, j < 90 → R5 2 j = R 2 j) (hX : ∀ c, (c ≤ 3 ∨ (11 ≤ c ∧ c < 49) ∨ 52 ≤ c) → X5 c = X c) (hX2 : ∀ c, 4 ≤ c → c ≤ 9 → X5 (1 + c) = M' c) (hR : ∀ c, (c = 1 ∨ c = 3 ∨ c = 9) → R5 c = R c) (h0 : ∀ j, (j = 6 ∨ j = 7 ∨ j = 13) → R5 0 j = R 0 j) (t0 : X5 50 1 = 0) (t1 : R5 0 10 = 0) : REL T X5 R5 := by
  obtain ⟨⟨⟨⟨s1, s2⟩, hin, -, ⟨d1, d2⟩⟩, ⟨⟨z1, z2, z3⟩, hk, hs⟩, h16, ⟨b1, b2, b3⟩⟩, h2, -, ⟨r1, r2⟩, ⟨f1, f2⟩, h6⟩ := h
  obtain ⟨k1, k2, k3, k4⟩ := hb
  refine ⟨⟨⟨⟨?_, fun j hj => ?_⟩, ?_, ⟨?_, ?_, ?_, fun j hj => ?_⟩, ⟨?_, fun j hj => ?_⟩⟩, ⟨⟨?_, hp, ?_⟩, ?_, ?_⟩, ?_, ?_, ?_, fun j hj => ?_⟩, ?_, ⟨?_, fun j hj => ?_⟩, ⟨?_, fun j hj => ?_⟩, ⟨?_, fun j hj => ?_⟩, ?_⟩
  · show X5 2 1 = 15
    rw [hX 2 (by decide)]; exact s1
  · show X5 3 j = R5 2 j
    rw [hX 3 (by decide), hq j (by omega)]; exact s2 j hj
  · unfold IN
    rw [show sh 1 X5 0 = sh 1 X 0 from hX 1 (by decide), hq 15 (by decide), hq 16 (by decide), hq 17 (by decide), hq 18 (by decide), hq 19 (by decide), hq 20 (by decide), hq 21 (by decide), hq 22 (by decide), hq 23 (by decide), hq 24 (by decide), hq 25 (by decide), hq 26 (by decide), hq 27 (by decide), hq 28 (by decide)]
    exact hin
  · show X5 (1 + 4) 1 = _
    rw [hX2 4 (by decide) (by decide)]; exact k1
  · show X5 (1 + 6) 1 = _
    rw [hX2 6 (by decide) (by decide)]; exact k2
  · show X5 (1 + 8) 1 = _
    rw [hX2 8 (by decide) (by decide)]; exact k3
  · show X5 (1 + 5) j = _ ∧ X5 (1 + 7) j = _ ∧ X5 (1 + 9) j = _
    rw [hX2 5 (by decide) (by decide), hX2 7 (by decide) (by decide), hX2 9 (by decide) (by decide)]
    exact k4 j hj
  · show X5 11 1 = _
    rw [hX 11 (by decide), hq 89 (by decide)]; exact d1
  · rw [hq 89 (by decide)] at hj
    show X5 12 j = _
    rw [hX 12 (by decide), hq _ (by omega)]
    exact d2 j hj
  · rw [hq 89 (by decide)]; exact z1
  · rw [hq 6 (by decide)]; exact z3
  · exact hk.ex (hq 24 (by decide)) (hq 25 (by decide)) (hq 26 (by decide))
  · exact hs.fr (fun j hj => hq j (by omega))
  · show X5 1 16 = -1
    rw [hX 1 (by decide)]; exact h16
  · rw [hq 22 (by decide)]; exact b1
  · rw [hq 22 (by decide)]; exact b2
  · rw [hq 89 (by decide)] at hj
    rw [hq _ (by omega)]
    exact b3 j hj
  · unfold IMG
    rw [hX 0 (by decide), h0 6 (by decide), hR 3 (by decide)]
    rcases h2 with h2 | ⟨a, b, c⟩
    · exact Or.inl h2
    · exact Or.inr ⟨a, b, c.ext (fun c hc => hX (13 + c) (by omega))⟩
  · rw [t0, t1]
  · rw [t1, z32] at hj
    omega
  · rw [hX 52 (by decide), h0 13 (by decide)]; exact r1
  · rw [h0 13 (by decide)] at hj
    rw [hX 53 (by decide), hR 9 (by decide)]; exact r2 j hj
  · rw [hX 54 (by decide)]; exact f1
  · rw [hX 55 (by decide), hR 1 (by decide)]; exact f2 j hj
  · rw [h0 7 (by decide)]; exact h6
/-- what both readers leave behind, the FAULT or how many -/
def BKR (X R : St) (L E : Int32 × St) : Prop := L.1 = E.1 ∧ BK L.2 (E.2 2) ∧ (0 ≤ (E.2 2 150).toInt ∧ (E.2 2 150).toInt ≤ 20) ∧ (∀ j, j < 90 → E.2 2 j = R 2 j) ∧ (∀ c, (c = 1 ∨ c = 3 ∨ c = 9) → E.2 c = R c) ∧ (∀ j, (j = 6 ∨ j = 7 ∨ j = 13) → E.2 0 j = R 0 j)
theorem read_rel {T : Nat} {X R : St} {L E : Int32 × St} (h : REL T X R) (hZ : Zmod R) (eL : L = xX3_readInto (sh2 49 3 4 X)) (eE : E = xX5_reads R) : BKR X R L E := by
  have tp : 0 ≤ (R 0 10).toInt ∧ (R 0 10).toInt ≤ 64 := hZ.2.2.1
  have hz := h.1.2.1.1
  obtain ⟨t1, t2⟩ := h.2.2.1
  obtain ⟨B, eB⟩ : ∃ B, B = sh2 49 3 4 X := ⟨_, rfl⟩
  rw [← eB] at eL
  have B1 : B 1 = X 50 := by rw [eB]; rfl
  have B2 : B 2 = X 51 := by rw [eB]; rfl
  have Bc : ∀ c, 4 ≤ c → c ≤ 9 → B c = sh 1 X c := by
    intro c h1 h2
    rw [eB]
    unfold sh2 sh
    have e : Nat.blt c 3 = false := Bool.eq_false_iff.mpr (fun q => by have : c + 1 ≤ 3 := Nat.le_of_ble_eq_true q; omega)
    rw [e]
    show X (4 + (c - 3)) = X (1 + c)
    congr 1
    omega
  obtain ⟨n, hn⟩ : ∃ n, n = R 0 10 := ⟨_, rfl⟩
  obtain ⟨t, ht⟩ : ∃ t, t = R 7 := ⟨_, rfl⟩
  have tsB : TS (sh 1 B) t n := by
    refine ⟨?_, by rw [hn]; exact tp, fun j hj => ?_⟩
    · show B 1 1 = n
      rw [B1, hn]; exact t1
    · show B 2 j = t j
      rw [B2, ht]
      exact t2 j (by rw [← hn]; exact hj)
  obtain ⟨P, hP, hP2⟩ : ∃ P : Nat, R 2 150 = nI P ∧ P ≤ 20 := ⟨(R 2 150).toInt.toNat, nIt hz.2.1.1, by have := hz.2.1.2; omega⟩
  have Pi : (nI P).toInt = P := nI_toInt (by omega)
  have bk0 : BK B (R 2) := by
    obtain ⟨k1, k2, k3, k4⟩ := h.1.1.2.2.1
    refine ⟨?_, ?_, ?_, fun j hj => ?_⟩
    · rw [Bc 4 (by decide) (by decide)]; exact k1
    · rw [Bc 6 (by decide) (by decide)]; exact k2
    · rw [Bc 8 (by decide) (by decide)]; exact k3
    · rw [Bc 5 (by decide) (by decide), Bc 7 (by decide) (by decide), Bc 9 (by decide) (by decide)]; exact k4 j hj
  unfold xX3_readInto at eL
  rw [sh0] at eL
  obtain ⟨z1, e1, eL⟩ := nm_el eL
  obtain ⟨M2, e2, eL⟩ := nm_el eL
  unfold xX3_hasForm at e1
  obtain ⟨B0, f1, e1⟩ := nm_el e1
  obtain ⟨y2, f2, e1⟩ := nm_el e1
  obtain ⟨y3, f3, e1⟩ := nm_el e1
  obtain ⟨x4, f4, e1⟩ := nm_el e1
  rw [f3, f4, f2] at e1
  unfold xX5_reads at eE
  obtain ⟨N1, g1, eE⟩ := nm_el eE
  have b0 : ∀ c, c ≠ 0 → B0 c = B c := fun c hc => by rw [f1, sa_ne hc]
  have b00 : B0 0 1 = 0 := by rw [f1, sa_eq, up_eq]
  have n1c : ∀ c, c ≠ 0 → N1 c = R c := fun c hc => by rw [g1, sa_ne hc]
  have n1j : ∀ j, j ≠ 11 → N1 0 j = R 0 j := fun j hj => by rw [g1, sa_eq, up_ne hj]
  have n11 : N1 0 11 = 0 := by rw [g1, sa_eq, up_eq]
  have ni : mu 0 n = n.toInt.toNat := by unfold mu; rw [z32]; omega
  have f64 : mu 0 64 + 1 = 65 := by decide +kernel
  obtain ⟨K, hK⟩ : ∃ K, K + 1 = 65 := ⟨64, rfl⟩
  rw [f64, ← hK] at e1
  have n1_10 : N1 0 10 = n := by rw [n1j 10 (by decide), hn]
  rw [n11, n1_10] at eE
  have r := ph1_step (t := t) (n := n) (k1 := K) (ph1_all (K + 1)) (k2 := mu 0 n) (M := B0) (N := N1) (v2 := 0) (j := 0) (tsB.fr b0) (by rw [n1c 7 (by decide), ht]) n1_10 (by rw [b00, n11]) (by rw [b00]; decide) (fun g => by
    have adv := rs_adv (tsB.fr b0).2.1.2 g
    rw [b00, z32] at adv
    rw [b00]
    exact ⟨by omega, by omega, by omega⟩) (by rw [b00]; exact Nat.lt_succ_self _)
  rw [show nI 0 = (0 : Int32) from rfl] at r
  rw [← e1, ← eE] at r
  have z3c : ∀ c, 3 ≤ c → M2 c = B c := fun c hc => by rw [e2, put_out (by omega)]
  have z0 : M2 0 = z1.2 0 := by rw [e2]; exact put_in (by decide) (by decide)
  rcases r with ⟨r1, r2, r3, r4⟩ | ⟨M', N', m, e, r1, r2, r3, r4, r5, r6⟩
  · rw [if_pos r1] at eL
    have e22 : E.2 2 = R 2 := by rw [r4.1 2 (by decide) (by decide), n1c 2 (by decide)]
    unfold BKR
    rw [e22, eL]
    refine ⟨?_, ?_, hz.2.1, fun _ _ => rfl, fun c hc => ?_, fun j hj => ?_⟩
    · show -1000 - M2 0 1 = E.1
      rw [r3, z0]
    · obtain ⟨k1, k2, k3, k4⟩ := bk0
      refine ⟨?_, ?_, ?_, fun j hj => ?_⟩
      · show M2 4 1 = _
        rw [z3c 4 (by decide)]; exact k1
      · show M2 6 1 = _
        rw [z3c 6 (by decide)]; exact k2
      · show M2 8 1 = _
        rw [z3c 8 (by decide)]; exact k3
      · show M2 5 j = _ ∧ M2 7 j = _ ∧ M2 9 j = _
        rw [z3c 5 (by decide), z3c 7 (by decide), z3c 9 (by decide)]; exact k4 j hj
    · rw [r4.1 c (by omega) (by omega), n1c c (by omega)]
    · rw [r4.2 j (by omega), n1j j (by omega)]
  · rw [r1, if_neg (show ¬ (1 : Int32) = 0 by decide)] at eL
    rw [r1] at z0 e2
    have z0 : M2 0 = M' 0 := z0
    obtain ⟨x4', e4, eL⟩ := nm_el eL
    obtain ⟨M5, e5, eL⟩ := nm_el eL
    have s4 : x4' = nI P := by
      rw [e4]
      show M2 4 1 = nI P
      rw [z3c 4 (by decide), bk0.1, hP]
    rw [s4, f64] at eL
    unfold ph2 at r6
    obtain ⟨z9, u9, r6⟩ := nm_el r6
    obtain ⟨N10, u10, r6⟩ := nm_el r6
    obtain ⟨N11, u11, r6⟩ := nm_el r6
    rw [u9] at u10
    obtain ⟨v1, v2⟩ := cp_main (by decide) u10
    have w11c : ∀ c, c ≠ 0 → N11 c = N10 c := fun c hc => by rw [u11, sa_ne hc]
    have w11j : ∀ j, j ≠ 11 → N11 0 j = N' 0 j := fun j hj => by rw [u11, sa_eq, up_ne hj, v2 0 (by decide)]
    have w11 : N11 0 11 = 0 := by rw [u11, sa_eq, up_eq]
    have p2 : N' 2 = R 2 := by rw [r5.1 2 (by decide) (by decide), n1c 2 (by decide)]
    have q6 : ∀ j, j < 151 → N11 6 j = R 2 j := fun j hj => by rw [w11c 6 (by decide), v1 j hj, p2]
    have q7 : N11 7 = t := by rw [w11c 7 (by decide), v2 7 (by decide), r5.1 7 (by decide) (by decide), n1c 7 (by decide), ht]
    have q10 : N11 0 10 = n := by rw [w11j 10 (by decide), r5.2 10 (by decide), n1_10]
    have m5c : ∀ c, c ≠ 0 → M5 c = M2 c := fun c hc => by rw [e5, sa_ne hc]
    have m5 : M5 0 1 = 0 := by rw [e5, sa_eq, up_eq]
    have m2c : ∀ c, c ≠ 0 → M2 c = B c := by
      intro c hc
      by_cases w : c < 3
      · rw [e2, put_in (Nat.zero_le _) (by omega)]
        show M' (c - 0) = B c
        rw [Nat.sub_zero, r2 c hc, b0 c hc]
      · exact z3c c (by omega)
    have ts5 : TS (sh 1 M5) t n := tsB.fr (fun c hc => (m5c c hc).trans (m2c c hc))
    have bk5 : BK M5 (N11 6) := by
      obtain ⟨k1, k2, k3, k4⟩ := bk0
      refine ⟨?_, ?_, ?_, fun j hj => ?_⟩
      · rw [m5c 4 (by decide), m2c 4 (by decide), q6 150 (by decide)]; exact k1
      · rw [m5c 6 (by decide), m2c 6 (by decide), q6 150 (by decide)]; exact k2
      · rw [m5c 8 (by decide), m2c 8 (by decide), q6 150 (by decide)]; exact k3
      · rw [q6 150 (by decide), hP, Pi] at hj
        rw [m5c 5 (by decide), m2c 5 (by decide), m5c 7 (by decide), m2c 7 (by decide), m5c 9 (by decide), m2c 9 (by decide), q6 _ (by omega), q6 _ (by omega), q6 _ (by omega)]
        exact k4 j (by rw [hP, Pi]; exact hj)
    have n64 : n.toInt ≤ 64 := ts5.2.1.2
    have cl := cn_len n64 m _ _ r3
    rw [b00] at r3 cl
    rw [z32] at cl
    have pb5 : PB M5 (R 2) P := by
      intro j hj
      have := bk5.2.2.2 j (by rw [q6 150 (by decide), hP, Pi]; omega)
      rw [q6 _ (by omega), q6 _ (by omega), q6 _ (by omega)] at this
      exact this
    rw [w11, q10] at r6
    have n0 := ts5.2.1.1
    have s := ph2_l (t := t) (n := n) (r0 := R 2) (s0 := P) (x7 := 0 + nI m) m 65 (mu 0 n + 1) M5 N11 0 P e ts5 q7 q10 (by rw [m5, w11]) (by rw [m5]; decide) (by rw [m5]; exact r3) r4 (by omega) (by omega) bk5 (by rw [q6 150 (by decide), hP]) hP2 (Nat.le_refl _) pb5
    rw [show nI 0 = (0 : Int32) from rfl, ← eL, ← r6] at s
    have k11 : ∀ c, c ≠ 0 → c ≠ 6 → c ≠ 8 → N11 c = R c := fun c h0 h6 h8 => by rw [w11c c h0, v2 c h6, r5.1 c h0 h8, n1c c h0]
    have j11 : ∀ j, j ≠ 11 → N11 0 j = R 0 j := fun j hj => by rw [w11j j hj, r5.2 j hj, n1j j hj]
    rcases s with ⟨A, C, a1, a2, a3, a4, a5, a6, a7, a8⟩ | ⟨u, A, C, a1, a2, a3, a4, a5, a6⟩
    · obtain ⟨z14, w14, a2⟩ := nm_el a2
      obtain ⟨N15, w15, a2⟩ := nm_el a2
      rw [w14] at w15
      obtain ⟨x1, x2⟩ := cp_main (by decide) w15
      unfold BKR
      rw [a1, a2]
      have Qi : (nI (P + m)).toInt = (P + m : Nat) := nI_toInt (by omega)
      refine ⟨?_, ?_, ?_, fun j hj => ?_, fun c hc => ?_, fun j hj => ?_⟩
      · show nI (P + m) - nI P = 0 + nI m
        rw [pk_sub (by omega), Int32.zero_add, show P + m - P = m by omega]
      · show BK A (N15 2)
        obtain ⟨k1, k2, k3, k4⟩ := a3
        refine ⟨?_, ?_, ?_, fun j hj => ?_⟩
        · rw [x1 150 (by decide)]; exact k1
        · rw [x1 150 (by decide)]; exact k2
        · rw [x1 150 (by decide)]; exact k3
        · rw [x1 150 (by decide), a4, Qi] at hj
          rw [x1 _ (by omega), x1 _ (by omega), x1 _ (by omega)]
          exact k4 j (by rw [a4, Qi]; exact hj)
      · show 0 ≤ (N15 2 150).toInt ∧ (N15 2 150).toInt ≤ 20
        rw [x1 150 (by decide), a4, Qi]
        omega
      · show N15 2 j = R 2 j
        rw [x1 j (by omega), a8 j hj, q6 j (by omega)]
      · show N15 c = R c
        rw [x2 c (by omega), a6 c (by omega) (by omega) (by omega), k11 c (by omega) (by omega) (by omega)]
      · show N15 0 j = R 0 j
        rw [x2 0 (by decide), a7 j (by omega), j11 j (by omega)]
    · unfold BKR
      rw [a1, a2]
      have c2 : C 2 = R 2 := by rw [a5 2 (by decide) (by decide) (by decide), k11 2 (by decide) (by decide) (by decide)]
      refine ⟨rfl, ?_, ?_, fun j hj => ?_, fun c hc => ?_, fun j hj => ?_⟩
      · show BK A (C 2)
        rw [c2]
        refine ⟨by rw [hP]; exact a3.1, by rw [hP]; exact a3.2.1, by rw [hP]; exact a3.2.2, fun j hj => ?_⟩
        rw [hP, Pi] at hj
        exact a4 j (by omega)
      · show 0 ≤ (C 2 150).toInt ∧ (C 2 150).toInt ≤ 20
        rw [c2]
        exact hz.2.1
      · show C 2 j = R 2 j
        rw [c2]
      · show C c = R c
        rw [a5 c (by omega) (by omega) (by omega), k11 c (by omega) (by omega) (by omega)]
      · show C 0 j = R 0 j
        rw [a6 j (by omega), j11 j (by omega)]
theorem C_book {T : Nat} {X R : St} {z y : Int32 × St} (h : REL T X R) (hZ : Zmod R) (ez : z = xX4_book X) (ey : y = xX5_book R) : OUT T z y := by
  unfold xX4_book at ez
  unfold xX5_book at ey
  obtain ⟨z1, e1, ez⟩ := nm_el ez
  obtain ⟨M2, e2, ez⟩ := nm_el ez
  obtain ⟨x3, e3, ez⟩ := nm_el ez
  obtain ⟨z4, e4, ez⟩ := nm_el ez
  obtain ⟨M5, e5, ez⟩ := nm_el ez
  obtain ⟨y1, f1, ey⟩ := nm_el ey
  obtain ⟨N2, f2, ey⟩ := nm_el ey
  obtain ⟨w3, f3, ey⟩ := nm_el ey
  obtain ⟨N4, f4, ey⟩ := nm_el ey
  obtain ⟨b1, b2, b3, b4, b5, b6⟩ := read_rel h hZ e1 f1
  rw [← f2] at b2 b3 b4 b5 b6
  have n4c : ∀ c, c ≠ 0 → N4 c = N2 c := fun c hc => by rw [f4, sa_ne hc]
  have n4j : ∀ j, j ≠ 10 → N4 0 j = N2 0 j := fun j hj => by rw [f4, sa_eq, up_ne hj]
  have n42 : N4 2 = N2 2 := n4c 2 (by decide)
  have m5 : ∀ c, c ≠ 50 → c ≠ 51 → M5 c = M2 c := fun c h1 h2 => by rw [e5, put_out (by omega)]
  have m50 : M5 50 1 = 0 := by
    have t : M5 50 = z4 0 := by rw [e5]; exact put_in (by decide) (by decide)
    unfold xX1_clear at e4
    rw [nm_eq] at e4
    rw [t, e4, sa_eq, up_eq]
  rw [ez, ey]
  refine ⟨?_, (bk_fin (M' := z1.2) (X5 := M5) (R5 := N4) h (by rw [n42]; exact b2) (by rw [n42]; exact b3) (fun j hj => by rw [n42]; exact b4 j hj) (fun c hc => ?_) (fun c h1 h2 => ?_) (fun c hc => by rw [n4c c (by omega)]; exact b5 c hc) (fun j hj => by rw [n4j j (by omega)]; exact b6 j hj) m50 (by rw [f4, sa_eq, up_eq])).mono (by omega)⟩
  · show x3 = w3
    rw [e3, f3, b1]
  · rw [m5 c (by omega) (by omega), e2, put2_out (by omega) (by omega)]
  · rw [m5 _ (by omega) (by omega), e2, put2_b (by omega) (by omega) (by omega)]
    have e : 3 + (1 + c - 4) = c := by omega
    rw [e]
/-! at the start -/
theorem ini_set : xX4_init 2 1 = 15 ∧ ∀ j : Nat, j < 15 → xX4_init 3 j = xX5_init 2 j := by decide +kernel
theorem ini_in : IN 0 (sh 1 xX4_init 0) (xX5_init 2) := by unfold IN; decide +kernel
theorem ini_sz : xX4_init 5 1 = 0 ∧ xX4_init 7 1 = 0 ∧ xX4_init 9 1 = 0 ∧ xX4_init 11 1 = 0 ∧ xX4_init 1 16 = -1 ∧ xX4_init 0 7 = 0 ∧ xX4_init 50 1 = 0 ∧ xX4_init 52 1 = 0 ∧ xX4_init 54 1 = 7 ∧ ∀ j : Nat, j < 7 → xX4_init 55 j = xX5_init 1 j := by decide +kernel
theorem ini_r : xX5_init 2 150 = 0 ∧ xX5_init 2 89 = 0 ∧ xX5_init 2 22 = 0 ∧ xX5_init 2 24 = 0 ∧ xX5_init 2 6 = 1 ∧ xX5_init 2 7 = 0 ∧ xX5_init 2 0 = 40 ∧ xX5_init 2 2 = 60 ∧ xX5_init 0 6 = 0 ∧ xX5_init 0 7 = -9 ∧ xX5_init 0 10 = 0 ∧ xX5_init 0 11 = 0 ∧ xX5_init 0 13 = 0 := by decide +kernel
theorem ini_z : Zmod xX5_init := by
  obtain ⟨a1, a2, a3, a4, a5, a6, a7, a8, b1, b2, b3, b4, b5⟩ := ini_r
  refine ⟨⟨?_, ?_, ?_⟩, Or.inl b1, ?_, ?_, ?_⟩
  · rw [a2]; decide
  · rw [a1]; decide
  · rw [a5]; decide
  · rw [b3]; decide
  · rw [b4]; decide
  · rw [b5]; decide
theorem ini_rel : REL 0 xX4_init xX5_init := by
  obtain ⟨a1, a2, a3, a4, a5, a6, a7, a8, b1, b2, b3, b4, b5⟩ := ini_r
  obtain ⟨c1, c2, c3, c4, c5, c6, c7, c8, c9, c10⟩ := ini_sz
  refine ⟨⟨⟨ini_set, ini_in, ⟨?_, ?_, ?_, fun j hj => ?_⟩, ⟨?_, fun j hj => ?_⟩⟩, ⟨⟨?_, ?_, ?_⟩, ?_, ?_⟩, c5, ?_, ?_, fun j hj => ?_⟩, Or.inl ⟨c6, b1⟩, ⟨?_, fun j hj => ?_⟩, ⟨?_, fun j hj => ?_⟩, ⟨c9, c10⟩, ?_⟩
  · exact c1.trans a1.symm
  · exact c2.trans a1.symm
  · exact c3.trans a1.symm
  · rw [a1, z32] at hj
    omega
  · exact c4.trans a2.symm
  · rw [a2, z32] at hj
    omega
  · rw [a2]; decide
  · rw [a1]; decide
  · rw [a5]; decide
  · unfold KS
    rw [a4]
    exact ⟨fun h => absurd h (by decide), fun h => absurd h (by decide)⟩
  · unfold STT
    rw [a6, a7, a8]
    decide
  · rw [a3]; decide
  · rw [a3]; decide
  · rw [a2, z32] at hj
    omega
  · exact c7.trans b3.symm
  · rw [b3, z32] at hj
    omega
  · exact c8.trans b5.symm
  · rw [b5, z32] at hj
    omega
  · rw [b2]; decide
