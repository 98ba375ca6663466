/-! the row and the tape: other cells stay -/
theorem REL.tr {T : Nat} {X X2 R R2 : St} (h : REL T X R) (hX : ∀ c, c < 25 ∨ 54 ≤ c → X2 c = X c) (hR : ∀ c, (c = 1 ∨ c = 2 ∨ c = 3) → R2 c = R c) (h0 : ∀ j, (j = 6 ∨ j = 7) → R2 0 j = R 0 j) (ht : TP X2 R2) (hr : RW X2 R2) : REL T X2 R2 := by
  obtain ⟨h1, h2, -, -, ⟨f1, f2⟩, h6⟩ := h
  refine ⟨?_, ?_, ht, hr, ⟨?_, fun j hj => ?_⟩, ?_⟩
  · rw [hR 2 (by decide)]
    exact h1.ext (fun c hc => hX (1 + c) (by omega))
  · unfold IMG
    rw [hX 0 (by decide), h0 6 (by decide), hR 3 (by decide)]
    rcases h2 with h2 | ⟨a, b, c⟩
    · exact Or.inl h2
    · exact Or.inr ⟨a, b, c.ext (fun c hc => hX (13 + c) (by omega))⟩
  · rw [hX 54 (by decide)]; exact f1
  · rw [hX 55 (by decide), hR 1 (by decide)]; exact f2 j hj
  · rw [h0 7 (by decide)]; exact h6
theorem gap_g {p s a b w : Int32} (hs : 0 ≤ s.toInt ∧ s.toInt ≤ 10) (ea : a = if 0 ≤ p then 0 else 1) (eb : b = if 9999 < p then 1 else (if s < 10 then 0 else 1)) (ew : w = if xX5_within p 0 9999 = 0 then (if s = 10 then -6 else xX5_within p 0 9999) else xX5_within p 0 9999) : w = if a = 0 then (if b = 0 then 0 else -6) else -4 := by
  unfold xX5_within at ew
  have c9 : (9999 : Int32).toInt = 9999 := rfl
  have c10 : (10 : Int32).toInt = 10 := rfl
  by_cases c : 0 ≤ p
  · rw [if_pos c] at ea ew
    rw [if_pos ea]
    by_cases d : p ≤ 9999
    · have d2 := Int32.le_iff_toInt_le.mp d
      rw [if_pos d, if_pos rfl] at ew
      rw [if_neg (by rw [i_lt]; exact d2)] at eb
      by_cases e : s = 10
      · rw [if_pos e] at ew
        rw [if_neg (by rw [i_lt, e]; decide)] at eb
        rw [ew, eb, if_neg (by decide)]
      · rw [if_neg e] at ew
        have e2 : s.toInt ≠ 10 := fun q => e (Int32.toInt_inj.mp q)
        rw [if_pos (by rw [Int32.lt_iff_toInt_lt, c10]; omega)] at eb
        rw [ew, eb, if_pos rfl]
    · have d2 := i_le.mp d
      rw [if_neg d, if_neg (by decide)] at ew
      rw [if_pos (by rw [Int32.lt_iff_toInt_lt]; exact d2)] at eb
      rw [ew, eb, if_neg (by decide)]
  · rw [if_neg c] at ea ew
    rw [if_neg (by decide)] at ew
    rw [ew, ea, if_neg (by decide)]
theorem C_gap {T : Nat} {X R : St} {p0 : Int32} {z y : Int32 × St} (h : REL T X R) (hZ : Zmod R) (ez : z = xX4_gap X p0) (ey : y = xX5_gap R p0) : OUT T z y := by
  have hs : 0 ≤ (R 0 13).toInt ∧ (R 0 13).toInt ≤ 10 := hZ.2.2.2.2
  obtain ⟨r1, r2⟩ := h.2.2.2.1
  have es : xX1_size 10 (sh 52 X) = R 0 13 := r1
  unfold xX4_gap at ez
  unfold xX5_gap at ey
  obtain ⟨a, ea, ez⟩ := nm_el ez
  obtain ⟨b, eb, ez⟩ := nm_el ez
  obtain ⟨x1, e1, ey⟩ := nm_el ey
  obtain ⟨w, ew, ey⟩ := nm_el ey
  rw [es] at eb
  rw [e1] at ew
  have hw := gap_g hs ea eb ew
  refine guard_rel h hw ez ey (fun ha hb ez ey => ?_)
  have s10 : R 0 13 < 10 := by
    rw [hb] at eb
    by_cases q : 9999 < p0
    · rw [if_pos q] at eb
      exact absurd eb (by decide)
    · rw [if_neg q] at eb
      by_cases q2 : R 0 13 < 10
      · exact q2
      · rw [if_neg q2] at eb
        exact absurd eb (by decide)
  have s10' := Int32.lt_iff_toInt_lt.mp s10
  rw [show (10 : Int32).toInt = 10 from rfl] at s10'
  obtain ⟨z10, e10, ez⟩ := nm_el ez
  obtain ⟨M11, e11, ez⟩ := nm_el ez
  obtain ⟨N6, f6, ey⟩ := nm_el ey
  obtain ⟨N7, f7, ey⟩ := nm_el ey
  unfold xX1_add at e10
  have s0 : sh 52 X 0 1 = R 0 13 := r1
  rw [s0, show nI 10 = (10 : Int32) from rfl, if_neg (by rw [i_le]; exact s10')] at e10
  simp only [nm_eq] at e10
  obtain ⟨m, hm, hm2⟩ : ∃ m : Nat, (R 0 13).toNatClampNeg = m ∧ (R 0 13).toInt = m := ⟨(R 0 13).toInt.toNat, rfl, by omega⟩
  rw [hm] at e10 f6
  have x : ∀ c, c ≠ 52 → c ≠ 53 → M11 c = X c := fun c h1 h2 => by rw [e11, put_out (by omega)]
  have x52 : M11 52 1 = R 0 13 + 1 := by
    have t : M11 52 = z10 0 := by rw [e11]; exact put_in (by decide) (by decide)
    rw [t, e10, sa_eq, up_eq, sa_ne (by decide), s0]
  have x53 : M11 53 = up (X 53) m p0 := by
    have t : M11 53 = z10 1 := by rw [e11]; exact put_in (by decide) (by decide)
    rw [t, e10, sa_ne (by decide), sa_eq]
    rfl
  have n9 : N7 9 = up (R 9) m p0 := by rw [f7, sa_ne (by decide), f6, sa_eq]
  have n60 : N6 0 = R 0 := by rw [f6, sa_ne (by decide)]
  have n0 : N7 0 = up (R 0) 13 (R 0 13 + 1) := by rw [f7, sa_eq, n60]
  have nc : ∀ c, c ≠ 0 → c ≠ 9 → N7 c = R c := fun c h1 h2 => by rw [f7, sa_ne h1, f6, sa_ne h2]
  have n13 : N7 0 13 = R 0 13 + 1 := by rw [n0, up_eq]
  rw [ez, ey]
  refine ⟨?_, (h.tr (fun c hc => x c (by omega) (by omega)) (fun c hc => nc c (by omega) (by omega)) (fun j hj => by rw [n0, up_ne (by omega)]) ?_ ?_).mono (by omega)⟩
  · show M11 52 1 = N7 0 13
    rw [x52, n13]
  · obtain ⟨t1, t2⟩ := h.2.2.1
    refine ⟨?_, fun j hj => ?_⟩
    · rw [x 50 (by decide) (by decide), n0, up_ne (by decide)]; exact t1
    · rw [n0, up_ne (by decide)] at hj
      rw [x 51 (by decide) (by decide), nc 7 (by decide) (by decide)]; exact t2 j hj
  · refine ⟨by rw [x52, n13], fun j hj => ?_⟩
    rw [n13, i_inc (by omega)] at hj
    rw [x53, n9]
    by_cases q : j = m
    · rw [q, up_eq, up_eq]
    · rw [up_ne q, up_ne q]
      exact r2 j (by omega)
theorem judge_l {T : Nat} {X R R4 : St} {g : Nat} {gp : Nat → Int32} (hg : GP T X R g gp) {s m : Nat} (hs : s ≤ 10) (hm : m = min s g) (es : X 52 1 = nI s) (er : ∀ j : Nat, j < s → X 53 j = R 9 j) (e4 : ∀ c, c ≠ 0 → R4 c = R c) (p : Int32) : ∀ (k1 k2 j : Nat), j ≤ m → m - j < k1 → g - j < k2 → xX5_judge_l32 k2 R4 p (nI s) (nI j) = (xX4_judged_l23 k1 X p (nI g) (nI m) (nI j), R4) := by
  obtain ⟨g59, ga, gr, gi⟩ := hg
  have gr4 : xX5_gaps R4 = nI g := by
    rw [← gr]
    unfold xX5_gaps
    rw [e4 2 (by decide)]
  have s4 : sh 2 R4 = sh 2 R := by
    funext a
    exact e4 (2 + a) (by omega)
  have esz : xX1_size 10 (sh 52 X) = nI s := es
  intro k1
  induction k1 with
  | zero => intro k2 j _ h; exact absurd h (Nat.not_lt_zero _)
  | succ k1 ih =>
    intro k2 j hj h1 h2
    cases k2 with
    | zero => exact absurd h2 (Nat.not_lt_zero _)
    | succ k2 =>
      rw [xX5_judge_l32, xX4_judged_l23, gr4, s4, esz]
      by_cases c : j = m
      · rw [if_pos (show nI m ≤ nI j by rw [c]; exact nI_le (Nat.le_refl _) (by omega))]
        by_cases d : g ≤ j
        · rw [if_pos (nI_le d (by omega))]
          by_cases e : s ≤ g
          · have e2 : s = g := by omega
            rw [if_pos (nI_le e (by omega)), if_pos (by rw [e2])]
          · rw [if_neg (nI_ge (by omega) (by omega)), if_neg (fun q => by have := (nI_eq (by omega) (by omega)).mp q; omega)]
            have e2 : m = g := by omega
            rw [e2]
        · have e2 : j = s := by omega
          rw [if_neg (nI_ge (by omega) (by omega)), if_pos (by rw [e2]), if_neg (fun q => by have := (nI_eq (by omega) (by omega)).mp q; omega)]
          have e3 : m = s := by omega
          rw [e3]
      · have c1 : j < g := by omega
        have c2 : j < s := by omega
        have ji : (nI j).toInt = j := nI_toInt (by omega)
        have si : (nI s).toInt = s := nI_toInt (by omega)
        rw [if_neg (nI_ge (show j < m by omega) (by omega)), if_neg (nI_ge c1 (by omega)), if_neg (fun q => by have := (nI_eq (by omega) (by omega)).mp q; omega)]
        have ea : xX1_at 10 (sh 52 X) (nI j) = R 9 j := by
          rw [at_in (S := sh 52 X) es (by rw [ji]; omega) (nI_ge c2 (by omega)), ji]
          exact er j c2
        rw [ea, (gi j c1).1, (gi j c1).2.1, abs_sym, e4 9 (by decide), nI_clamp (by omega)]
        by_cases d : xX5_amount (gp j - R 9 j) ≤ p
        · rw [if_pos d, if_pos d]
          simp only [nm_eq]
          rw [nI_1]
          exact ih k2 (j + 1) (by omega) (by omega) (by omega)
        · rw [if_neg d, if_neg d]
theorem C_judge {T : Nat} {X R : St} {p0 : Int32} {z y : Int32 × St} (hT : T ≤ 1000000000) (h : REL T X R) (hZ : Zmod R) (ez : z = xX4_judge X p0) (ey : y = xX5_judge R p0) : OUT T z y := by
  have hs : 0 ≤ (R 0 13).toInt ∧ (R 0 13).toInt ≤ 10 := hZ.2.2.2.2
  obtain ⟨g, gp, hg⟩ := gp_of hT h
  obtain ⟨r1, r2⟩ := h.2.2.2.1
  unfold xX4_judge at ez
  unfold xX5_judge at ey
  obtain ⟨a, ea, ez⟩ := nm_el ez
  obtain ⟨b, eb, ez⟩ := nm_el ez
  obtain ⟨w, ew, ey⟩ := nm_el ey
  refine guard_rel h (ew.trans (within_g ea eb)) ez ey (fun ha hb ez ey => ?_)
  obtain ⟨x9, e9, ez⟩ := nm_el ez
  obtain ⟨z10, e10, ez⟩ := nm_el ez
  obtain ⟨M11, e11, ez⟩ := nm_el ez
  obtain ⟨x3, f3, ey⟩ := nm_el ey
  obtain ⟨N4, f4, ey⟩ := nm_el ey
  obtain ⟨s, es, es2⟩ : ∃ s : Nat, R 0 13 = nI s ∧ s ≤ 10 := ⟨(R 0 13).toInt.toNat, nIt hs.1, by omega⟩
  have si : (nI s).toInt = s := nI_toInt (by omega)
  have n4 : ∀ c, c ≠ 0 → N4 c = R c := fun c hc => by rw [f4, sa_ne hc]
  have x52 : X 52 1 = nI s := r1.trans es
  have g4 : xX5_gaps N4 = nI g := by
    rw [← hg.2.2.1]
    unfold xX5_gaps
    rw [n4 2 (by decide)]
  have gi2 : (nI g).toInt = g := nI_toInt (by have := hg.1; omega)
  have g59 := hg.1
  unfold xX4_judged at e9
  rw [hg.2.1] at e9
  obtain ⟨u1, v1, e9⟩ := nm_el e9
  obtain ⟨u2, v2, e9⟩ := nm_el e9
  have esz : xX1_size 10 (sh 52 X) = nI s := x52
  rw [v1, esz] at v2
  have hm : u2 = nI (min s g) := by
    rw [v2]
    by_cases q : g < s
    · rw [if_pos (nI_lt q (by omega)), Nat.min_eq_right (by omega)]
    · rw [if_neg (nI_nlt (by omega) (by omega)), Nat.min_eq_left (by omega)]
  rw [v1, hm] at e9
  rw [g4, f3, es] at ey
  have hmi : (nI (min s g)).toInt = (min s g : Nat) := nI_toInt (by omega)
  have jl := judge_l hg es2 rfl x52 (fun j hj => r2 j (by rw [es, si]; omega)) n4 p0 (mu 0 (nI (min s g)) + 1) (mu 0 (nI g) + 1) 0 (Nat.zero_le _) (by unfold mu; rw [z32, hmi]; omega) (by unfold mu; rw [z32, gi2]; omega)
  have ey2 : y = (x9, N4) := ey.trans (jl.trans (by rw [e9]; rfl))
  have m11 : ∀ c, c ≠ 52 → c ≠ 53 → M11 c = X c := fun c h1 h2 => by rw [e11, put_out (by omega)]
  unfold xX1_clear at e10
  rw [nm_eq] at e10
  have m52 : M11 52 1 = 0 := by
    have t : M11 52 = z10 0 := by rw [e11]; exact put_in (by decide) (by decide)
    rw [t, e10, sa_eq, up_eq]
  have n0 : N4 0 = up (R 0) 13 0 := by rw [f4, sa_eq]
  rw [ez, ey2]
  refine ⟨rfl, (h.tr (fun c hc => m11 c (by omega) (by omega)) (fun c hc => n4 c (by omega)) (fun j hj => by show N4 0 j = R 0 j; rw [n0, up_ne (by omega)]) ?_ ?_).mono (by omega)⟩
  · obtain ⟨t1, t2⟩ := h.2.2.1
    refine ⟨?_, fun j hj => ?_⟩
    · show M11 50 1 = N4 0 10
      rw [m11 50 (by decide) (by decide), n0, up_ne (by decide)]; exact t1
    · have hj2 : (j : Int) < (N4 0 10).toInt := hj
      rw [n0, up_ne (by decide)] at hj2
      show M11 51 j = N4 7 j
      rw [m11 51 (by decide) (by decide), n4 7 (by decide)]; exact t2 j hj2
  · refine ⟨?_, fun j hj => ?_⟩
    · show M11 52 1 = N4 0 13
      rw [m52, n0, up_eq]
    · have hj2 : (j : Int) < (N4 0 13).toInt := hj
      rw [n0, up_eq, z32] at hj2
      omega
/-! the image -/
theorem sh2_g (X : St) (o o2 c : Nat) : sh 12 (sh2 o 12 o2 X) c = X (o2 + c) := by
  unfold sh sh2
  have e : Nat.blt (12 + c) 12 = false := Bool.eq_false_iff.mpr (fun q => by have : 12 + c + 1 ≤ 12 := Nat.le_of_ble_eq_true q; omega)
  rw [e]
  show X (o2 + (12 + c - 12)) = X (o2 + c)
  congr 1
  omega
theorem bec_main {X X2 : St} {o o2 : Nat} {r : Nat → Int32} (h : BE 0 (sh o2 X) r) (hz : rz r) (ho : o + 12 ≤ o2 ∨ o2 + 12 ≤ o) (e : X2 = put2 o 12 o2 12 (xX0_become (sh2 o 12 o2 X)) X) : BE 0 (sh o X2) r ∧ sh o X2 0 16 = X o2 16 ∧ ∀ c, c < o ∨ o + 12 ≤ c → X2 c = X c := by
  obtain ⟨z, ez⟩ : ∃ z, z = xX0_become (sh2 o 12 o2 X) := ⟨_, rfl⟩
  rw [← ez] at e
  obtain ⟨q1, q2, q3⟩ := become_rel (h.ext (fun c _ => sh2_g X o o2 c)) hz ez
  have x : ∀ c, c < 12 → sh o X2 c = z c := by
    intro c hc
    show X2 (o + c) = z c
    rw [e, put2_a (by omega) (by omega)]
    congr 1
    omega
  refine ⟨q1.ext x, ?_, fun c hc => ?_⟩
  · rw [x 0 (by decide), q2]
    have t := sh2_g X o o2 0
    exact congrFun t 16
  · by_cases w : o2 ≤ c ∧ c < o2 + 12
    · rw [e, put2_b (by omega) (by omega) (by omega), q3 _ (by omega)]
      have t := sh2_g X o o2 (c - o2)
      have t2 : sh 12 (sh2 o 12 o2 X) (c - o2) = sh2 o 12 o2 X (12 + (c - o2)) := rfl
      rw [← t2, t]
      congr 1
      omega
    · rw [e, put2_out (by omega) (by omega)]
theorem cp_main {R R2 : St} {a b : Nat} (hab : a ≠ b) (e : R2 = put2 a 1 b 1 (xX5_copies (sh2 a 1 b R)) R) : (∀ j, j < 151 → R2 b j = R a j) ∧ ∀ c, c ≠ b → R2 c = R c := by
  have c := copies_eq (sh2 a 1 b R)
  obtain ⟨z, ez⟩ : ∃ z, z = xX5_copies (sh2 a 1 b R) := ⟨_, rfl⟩
  rw [← ez] at c e
  obtain ⟨c1, c2⟩ := c
  have s0 : sh2 a 1 b R 0 = R a := rfl
  have rb : R2 b = z 1 := by
    rw [e]
    refine (put2_b (by omega) (by omega) (by omega)).trans ?_
    congr 1
    omega
  refine ⟨fun j hj => by rw [rb, c2 j, if_pos hj, s0], fun k hk => ?_⟩
  by_cases q : k = a
  · rw [q, e]
    refine (put2_a (by omega) (by omega)).trans ?_
    rw [Nat.sub_self, c1 0 (by decide)]
    rfl
  · rw [e, put2_out (by omega) (by omega)]
theorem BE.exr {δ : Int32} {b : St} {r q : Nat → Int32} (h : BE δ b r) (hz : rz r) (e : ∀ j, j < 151 → q j = r j) : BE δ b q := by
  obtain ⟨⟨s1, s2⟩, hin, ⟨k1, k2, k3, k4⟩, ⟨d1, d2⟩⟩ := h
  obtain ⟨⟨z1, z2⟩, ⟨z3, z4⟩, -⟩ := hz
  refine ⟨⟨s1, fun j hj => ?_⟩, ?_, ⟨?_, ?_, ?_, fun j hj => ?_⟩, ⟨?_, fun j hj => ?_⟩⟩
  · rw [e j (by omega)]; exact s2 j hj
  · unfold IN
    rw [e 15 (by decide), e 16 (by decide), e 17 (by decide), e 18 (by decide), e 19 (by decide), e 20 (by decide), e 21 (by decide), e 22 (by decide), e 23 (by decide), e 24 (by decide), e 25 (by decide), e 26 (by decide), e 27 (by decide), e 28 (by decide)]
    exact hin
  · rw [e 150 (by decide)]; exact k1
  · rw [e 150 (by decide)]; exact k2
  · rw [e 150 (by decide)]; exact k3
  · rw [e 150 (by decide)] at hj
    rw [e _ (by omega), e _ (by omega), e _ (by omega)]
    exact k4 j hj
  · rw [e 89 (by decide)]; exact d1
  · rw [e 89 (by decide)] at hj
    rw [e _ (by omega)]
    exact d2 j hj
theorem RI.exr {r q : Nat → Int32} (h : RI r) (e : ∀ j, j < 151 → q j = r j) : RI q :=
  ⟨rz_ext h.1 e, h.2.1.ex (e 24 (by decide)) (e 25 (by decide)) (e 26 (by decide)), h.2.2.fr (fun j hj => e j (by omega))⟩
theorem DB.exr {T : Nat} {r q : Nat → Int32} (h : DB T r) (hz : rz r) (e : ∀ j, j < 151 → q j = r j) : DB T q := by
  obtain ⟨a, b, c⟩ := h
  obtain ⟨⟨z1, z2⟩, -, -⟩ := hz
  refine ⟨by rw [e 22 (by decide)]; exact a, by rw [e 22 (by decide)]; exact b, fun j hj => ?_⟩
  rw [e 89 (by decide)] at hj
  rw [e _ (by omega)]
  exact c j hj
theorem C_image {T : Nat} {X R : St} {z y : Int32 × St} (h : REL T X R) (ez : z = xX4_image X) (ey : y = xX5_image R) : OUT T z y := by
  obtain ⟨g1, g2, g3, g4⟩ := h.1
  unfold xX4_image at ez
  unfold xX5_image at ey
  obtain ⟨z1, e1, ez⟩ := nm_el ez
  obtain ⟨M2, e2, ez⟩ := nm_el ez
  obtain ⟨M3, e3, ez⟩ := nm_el ez
  obtain ⟨y1, f1, ey⟩ := nm_el ey
  obtain ⟨N2, f2, ey⟩ := nm_el ey
  obtain ⟨N3, f3, ey⟩ := nm_el ey
  rw [e1] at e2
  rw [f1] at f2
  obtain ⟨b1, b2, b3⟩ := bec_main g1 g2.1 (by decide) e2
  obtain ⟨c1, c2⟩ := cp_main (by decide) f2
  have x : ∀ c, (c < 13 ∧ c ≠ 0) ∨ 25 ≤ c → M3 c = X c := fun c hc => by rw [e3, sa_ne (by omega), b3 c (by omega)]
  have n : ∀ c, c ≠ 0 → c ≠ 3 → N3 c = R c := fun c h1 h2 => by rw [f3, sa_ne h1, c2 c h2]
  have n0 : N3 0 = up (R 0) 6 1 := by rw [f3, sa_eq, c2 0 (by decide)]
  have x0 : M3 0 7 = 1 := by rw [e3, sa_eq, up_eq]
  have n3 : N3 3 = N2 3 := by rw [f3, sa_ne (by decide)]
  have x13 : ∀ c, c < 12 → sh 13 M3 c = sh 13 M2 c := fun c hc => by
    show M3 (13 + c) = M2 (13 + c)
    rw [e3, sa_ne (by omega)]
  rw [ez, ey]
  obtain ⟨-, -, ⟨t1, t2⟩, ⟨r1, r2⟩, ⟨p1, p2⟩, h6⟩ := h
  refine ⟨?_, ?_, Or.inr ⟨x0, ?_, ?_⟩, ⟨?_, fun j hj => ?_⟩, ⟨?_, fun j hj => ?_⟩, ⟨?_, fun j hj => ?_⟩, ?_⟩
  · show M3 1 10 = N3 2 22
    rw [x 1 (by decide), n 2 (by decide) (by decide)]
    exact g1.time
  · show GB (T + 3000) (sh 1 M3) (N3 2)
    rw [n 2 (by decide) (by decide)]
    exact GB.mono (GB.ext (T := T) (b := sh 1 X) ⟨g1, g2, g3, g4⟩ (fun c hc => x (1 + c) (by omega))) (by omega)
  · show N3 0 6 = 1
    rw [n0, up_eq]
  · show GB (T + 3000) (sh 13 M3) (N3 3)
    rw [n3]
    refine ⟨(b1.ext x13).exr g2.1 c1, g2.exr c1, ?_, (g4.exr g2.1 c1).mono (by omega)⟩
    rw [x13 0 (by decide), b2]
    exact g3
  · show M3 50 1 = N3 0 10
    rw [x 50 (by decide), n0, up_ne (by decide)]; exact t1
  · have hj2 : (j : Int) < (N3 0 10).toInt := hj
    rw [n0, up_ne (by decide)] at hj2
    show M3 51 j = N3 7 j
    rw [x 51 (by decide), n 7 (by decide) (by decide)]; exact t2 j hj2
  · show M3 52 1 = N3 0 13
    rw [x 52 (by decide), n0, up_ne (by decide)]; exact r1
  · have hj2 : (j : Int) < (N3 0 13).toInt := hj
    rw [n0, up_ne (by decide)] at hj2
    show M3 53 j = N3 9 j
    rw [x 53 (by decide), n 9 (by decide) (by decide)]; exact r2 j hj2
  · show M3 54 1 = 7
    rw [x 54 (by decide)]; exact p1
  · show M3 55 j = N3 1 j
    rw [x 55 (by decide), n 1 (by decide) (by decide)]; exact p2 j hj
  · show N3 0 7 < 0
    rw [n0, up_ne (by decide)]; exact h6
theorem C_on {T : Nat} {X R : St} {z y : Int32 × St} (h : REL T X R) (ez : z = xX4_on X) (ey : y = xX5_on R) : OUT T z y := by
  unfold xX4_on at ez
  unfold xX5_on at ey
  rcases h.2.1 with ⟨i1, i2⟩ | ⟨i1, i2, g1, g2, g3, g4⟩
  · rw [if_pos i1] at ez
    rw [if_pos i2] at ey
    exact ref_out h rf3 ez ey
  · rw [if_neg (by rw [i1]; decide)] at ez
    rw [if_neg (by rw [i2]; decide)] at ey
    obtain ⟨z1, e1, ez⟩ := nm_el ez
    obtain ⟨M2, e2, ez⟩ := nm_el ez
    obtain ⟨y1, f1, ey⟩ := nm_el ey
    obtain ⟨N2, f2, ey⟩ := nm_el ey
    rw [e1] at e2
    rw [f1] at f2
    obtain ⟨b1, b2, b3⟩ := bec_main g1 g2.1 (by decide) e2
    obtain ⟨c1, c2⟩ := cp_main (by decide) f2
    have hb : GB T (sh 1 M2) (N2 2) := ⟨b1.exr g2.1 c1, g2.exr c1, by rw [b2]; exact g3, g4.exr g2.1 c1⟩
    rw [ez, ey]
    refine ⟨?_, (h.bird (Nat.le_refl _) hb (fun c hc => b3 c (by omega)) (fun c hc => c2 c (by omega)) (fun j _ => by rw [c2 0 (by decide)])).mono (by omega)⟩
    show M2 1 10 = N2 2 22
    exact hb.1.time
theorem count_j {T : Nat} {X R : St} {p0 : Int32} {z y : Int32 × St} (h : REL T X R) (ez : z = xX4_count_j24 X p0) (ey : y = xX5_count_j22 R p0) : OUT T z y := by
  unfold xX4_count_j24 at ez
  unfold xX5_count_j22 at ey
  by_cases c0 : p0 = 0
  · rw [if_pos c0] at ez ey
    exact same_out h ez ey h.1.1.2.2.2.1
  · rw [if_neg c0] at ez ey
    by_cases c1 : p0 = 1
    · rw [if_pos c1] at ez ey
      exact same_out h ez ey h.1.1.2.2.1.1
    · rw [if_neg c1] at ez ey
      by_cases c2 : p0 = 2
      · rw [if_pos c2] at ez ey
        exact same_out h ez ey h.2.2.2.1.1
      · rw [if_neg c2] at ez ey
        by_cases c3 : p0 = 3
        · rw [if_pos c3] at ez ey
          exact same_out h ez ey h.2.2.1.1
        · rw [if_neg c3] at ez ey
          exact same_out h ez ey rfl
theorem C_count {T : Nat} {X R : St} {p0 : Int32} {z y : Int32 × St} (h : REL T X R) (ez : z = xX4_count X p0) (ey : y = xX5_count R p0) : OUT T z y := by
  unfold xX4_count at ez
  unfold xX5_count at ey
  have t10 : (10 : Int32).toInt = 10 := rfl
  have t11 : (11 : Int32).toInt = 11 := rfl
  have t16 : (16 : Int32).toInt = 16 := rfl
  have t17 : (17 : Int32).toInt = 17 := rfl
  by_cases c : p0 < 11
  · have c2 := Int32.lt_iff_toInt_lt.mp c
    rw [if_pos c] at ez
    rw [if_pos (by rw [Int32.le_iff_toInt_le]; omega)] at ey
    exact count_j h ez ey
  · have c2 := i_lt.mp c
    rw [if_neg c] at ez
    rw [if_neg (by rw [i_le]; omega)] at ey
    by_cases d : 16 < p0
    · have d2 := Int32.lt_iff_toInt_lt.mp d
      rw [if_pos d] at ez
      rw [if_pos (by rw [Int32.le_iff_toInt_le]; omega)] at ey
      exact count_j h ez ey
    · have d2 := i_lt.mp d
      rw [if_neg d] at ez
      rw [if_neg (by rw [i_le]; omega)] at ey
      refine same_out h ez ey ?_
      obtain ⟨f1, f2⟩ := h.2.2.2.2.1
      have e : (p0 - 10).toInt = p0.toInt - 10 := i_sub (by omega) (by omega)
      rw [at_in (S := sh 54 X) f1 (by rw [e]; omega) (by rw [i_le, e, show (7 : Int32).toInt = 7 from rfl]; omega), tnc]
      exact f2 _ (by omega)
/-! feed -/
theorem bv_byte (a : BitVec 64) {s : Nat} (hs : s ≤ 56) : (a >>> s) &&& 255#64 = (a.sshiftRight s) &&& 255#64 := by
  apply BitVec.eq_of_getLsbD_eq
  intro i hi
  rw [BitVec.getLsbD_and, BitVec.getLsbD_and, BitVec.getLsbD_ushiftRight, BitVec.getLsbD_sshiftRight]
  by_cases h : i < 8
  · simp [show ¬ 64 ≤ i by omega, show s + i < 64 by omega]
  · have e : ∀ i, i < 64 → ¬ i < 8 → (255#64).getLsbD i = false := by decide +kernel
    rw [e i hi h, Bool.and_false, Bool.and_false]
theorem sh_c : ∀ j, j < 8 → (((8 * nI j : Int32).toInt64.toUInt64 &&& Int64.toUInt64 63)).toBitVec % 64#64 = BitVec.ofNat 64 (8 * j) := by decide +kernel
theorem sh_d : ∀ j, j < 8 → ((8 * nI j : Int32).toInt64 &&& 63).toBitVec.smod 64#64 = BitVec.ofNat 64 (8 * j) := by decide +kernel
theorem byte_eq (x : Int64) {j : Nat} (hj : j < 8) : ((x.toUInt64 >>> ((8 * nI j : Int32).toInt64.toUInt64 &&& Int64.toUInt64 63)).toInt64 &&& 255) = ((x >>> ((8 * nI j : Int32).toInt64 &&& 63)) &&& 255) := by
  have hc := sh_c j hj
  have hd := sh_d j hj
  generalize ((8 * nI j : Int32).toInt64.toUInt64 &&& Int64.toUInt64 63) = c at hc ⊢
  generalize ((8 * nI j : Int32).toInt64 &&& 63) = d at hd ⊢
  apply Int64.toBitVec_inj.mp
  have l : ((x.toUInt64 >>> c).toInt64 &&& 255).toBitVec = (x.toBitVec >>> (c.toBitVec % 64#64)) &&& 255#64 := rfl
  have r : ((x >>> d) &&& 255).toBitVec = (x.toBitVec.sshiftRight' (d.toBitVec.smod 64#64)) &&& 255#64 := rfl
  rw [l, r, hc, hd, BitVec.ushiftRight_eq', BitVec.sshiftRight_eq']
  have t : (BitVec.ofNat 64 (8 * j)).toNat = 8 * j := by
    rw [BitVec.toNat_ofNat]
    exact Nat.mod_eq_of_lt (by omega)
  rw [t]
  exact bv_byte _ (by omega)
theorem feed_l {T : Nat} {n : Nat} (hn : n ≤ 8) (p1 : Int64) : ∀ (k j : Nat) (X R : St), REL T X R → 0 ≤ (R 0 10).toInt → (R 0 10).toInt + n ≤ 64 + j → j ≤ n → (xX4_feed_l55 k X (nI n) p1 (nI j)).1 = (xX5_feed_l39 k R (nI n) p1 (nI j)).1 ∧ REL T (xX4_feed_l55 k X (nI n) p1 (nI j)).2 (xX5_feed_l39 k R (nI n) p1 (nI j)).2 := by
  intro k
  induction k with
  | zero =>
    intro j X R h _ _ _
    rw [xX4_feed_l55, xX5_feed_l39]
    exact ⟨rfl, h⟩
  | succ k ih =>
    intro j X R h h0 h1 h2
    rw [xX4_feed_l55, xX5_feed_l39]
    obtain ⟨t1, t2⟩ := h.2.2.1
    by_cases c : j = n
    · rw [if_pos (by rw [c]; exact nI_le (Nat.le_refl _) (by omega)), if_pos (by rw [c]; exact nI_le (Nat.le_refl _) (by omega))]
      exact ⟨t1, h⟩
    · rw [if_neg (nI_ge (by omega) (by omega)), if_neg (nI_ge (by omega) (by omega)), byte_eq p1 (by omega)]
      obtain ⟨v, hv⟩ : ∃ v : Int32, v = ((((p1 >>> ((8 * nI j : Int32).toInt64 &&& 63)) &&& 255) : Int64).toInt32) := ⟨_, rfl⟩
      rw [← hv]
      obtain ⟨z13, e13⟩ : ∃ z, z = xX1_add 64 (sh 50 X) v := ⟨_, rfl⟩
      obtain ⟨M14, e14⟩ : ∃ M, M = put 50 2 z13 X := ⟨_, rfl⟩
      obtain ⟨N10, f10⟩ : ∃ N, N = sa R 7 (up (R 7) ((R 0 10).toNatClampNeg) v) := ⟨_, rfl⟩
      obtain ⟨N11, f11⟩ : ∃ N, N = sa N10 0 (up (N10 0) 10 (N10 0 10 + 1)) := ⟨_, rfl⟩
      simp only [nm_eq]
      rw [nI_1, ← e13, ← e14, ← f10, ← f11]
      have s0 : sh 50 X 0 1 = R 0 10 := t1
      have hlt : (R 0 10).toInt < 64 := by omega
      unfold xX1_add at e13
      rw [s0, show nI 64 = (64 : Int32) from rfl, if_neg (by rw [i_le, show (64 : Int32).toInt = 64 from rfl]; omega)] at e13
      simp only [nm_eq] at e13
      obtain ⟨m, hm, hm2⟩ : ∃ m : Nat, (R 0 10).toNatClampNeg = m ∧ (R 0 10).toInt = m := ⟨(R 0 10).toInt.toNat, rfl, by omega⟩
      rw [hm] at e13 f10
      have x : ∀ c, c ≠ 50 → c ≠ 51 → M14 c = X c := fun c h1 h2 => by rw [e14, put_out (by omega)]
      have x50 : M14 50 1 = R 0 10 + 1 := by
        have t : M14 50 = z13 0 := by rw [e14]; exact put_in (by decide) (by decide)
        rw [t, e13, sa_eq, up_eq, sa_ne (by decide), s0]
      have x51 : M14 51 = up (X 51) m v := by
        have t : M14 51 = z13 1 := by rw [e14]; exact put_in (by decide) (by decide)
        rw [t, e13, sa_ne (by decide), sa_eq]
        rfl
      have n7 : N11 7 = up (R 7) m v := by rw [f11, sa_ne (by decide), f10, sa_eq]
      have n60 : N10 0 = R 0 := by rw [f10, sa_ne (by decide)]
      have n0 : N11 0 = up (R 0) 10 (R 0 10 + 1) := by rw [f11, sa_eq, n60]
      have nc : ∀ c, c ≠ 0 → c ≠ 7 → N11 c = R c := fun c h1 h2 => by rw [f11, sa_ne h1, f10, sa_ne h2]
      have n10 : N11 0 10 = R 0 10 + 1 := by rw [n0, up_eq]
      have n10i : (N11 0 10).toInt = (R 0 10).toInt + 1 := by rw [n10, i_inc (by omega)]
      refine ih (j + 1) M14 N11 (h.tr (fun c hc => x c (by omega) (by omega)) (fun c hc => nc c (by omega) (by omega)) (fun j hj => by rw [n0, up_ne (by omega)]) ⟨by rw [x50, n10], fun i hi => ?_⟩ ?_) (by omega) (by omega) (by omega)
      · rw [n10i] at hi
        rw [x51, n7]
        by_cases q : i = m
        · rw [q, up_eq, up_eq]
        · rw [up_ne q, up_ne q]
          exact t2 i (by omega)
      · obtain ⟨r1, r2⟩ := h.2.2.2.1
        refine ⟨by rw [x 52 (by decide) (by decide), n0, up_ne (by decide)]; exact r1, fun i hi => ?_⟩
        rw [n0, up_ne (by decide)] at hi
        rw [x 53 (by decide) (by decide), nc 9 (by decide) (by decide)]
        exact r2 i hi
theorem C_feed {T : Nat} {X R : St} {p0 : Int32} {p1 : Int64} {z y : Int32 × St} (h : REL T X R) (hZ : Zmod R) (ez : z = xX4_feed X p0 p1) (ey : y = xX5_feed R p0 p1) : OUT T z y := by
  have hs : 0 ≤ (R 0 10).toInt ∧ (R 0 10).toInt ≤ 64 := hZ.2.2.1
  have es : xX1_size 64 (sh 50 X) = R 0 10 := h.2.2.1.1
  unfold xX4_feed at ez
  unfold xX5_feed xX5_feed_j29 at ey
  obtain ⟨a, ea, ez⟩ := nm_el ez
  obtain ⟨b, eb, ez⟩ := nm_el ez
  rw [es] at eb
  have key : ∀ {w : Int32}, w = (if a = 0 then (if b = 0 then 0 else -6) else -4) → y = (if w = 0 then xX5_feed_l39 (mu 0 p0 + 1) R p0 p1 0 else (nm (xX5_refuse R w) fun z5 => nm z5.2 fun M6 => (z5.1, M6))) → OUT T z y := by
    intro w hw ey
    refine guard_rel h hw ez ey (fun ha hb ez ey => ?_)
    have l1 := g_lo ea ha
    rw [o32] at l1
    rw [hb] at eb
    by_cases q : 8 < p0
    · rw [if_pos q] at eb
      exact absurd eb (by decide)
    · rw [if_neg q] at eb
      have q8 := i_lt.mp q
      rw [show (8 : Int32).toInt = 8 from rfl] at q8
      by_cases q2 : R 0 10 + p0 ≤ 64
      · have q3 := Int32.le_iff_toInt_le.mp q2
        rw [i_add (by omega) (by omega), show (64 : Int32).toInt = 64 from rfl] at q3
        obtain ⟨n, hn, hn2⟩ : ∃ n : Nat, p0 = nI n ∧ p0.toInt = n := ⟨p0.toInt.toNat, nIt (by omega), by omega⟩
        rw [hn] at ez ey
        have f := feed_l (T := T) (n := n) (by omega) p1 (mu 0 (nI n) + 1) 0 X R h hs.1 (by omega) (Nat.zero_le _)
        rw [ez, ey]
        exact ⟨f.1, f.2.mono (by omega)⟩
      · rw [if_neg q2] at eb
        exact absurd eb (by decide)
  by_cases c1 : 1 ≤ p0
  · rw [if_pos c1] at ey ea
    by_cases c2 : 8 < p0
    · rw [if_pos c2] at ey eb
      refine key (w := -6) (by rw [ea, eb, if_pos rfl, if_neg (by decide)]) ?_
      rw [if_neg (by decide)]
      exact ey
    · rw [if_neg c2] at ey eb
      by_cases c3 : R 0 10 + p0 ≤ 64
      · rw [if_pos c3] at ey eb
        refine key (w := 0) (by rw [ea, eb, if_pos rfl, if_pos rfl]) ?_
        rw [if_pos rfl]
        exact ey
      · rw [if_neg c3] at ey eb
        refine key (w := -6) (by rw [ea, eb, if_pos rfl, if_neg (by decide)]) ?_
        rw [if_neg (by decide)]
        exact ey
  · rw [if_neg c1] at ey ea
    refine key (w := -4) (by rw [ea, if_neg (by decide)]) ?_
    rw [if_neg (by decide)]
    exact ey
