/-! driest: the first gaps of fresh birds against the row -/
theorem fit_l {X2 M2 : St} {s : Nat} {gp : Nat → Int32} (hs : s ≤ 10) (es : X2 52 1 = nI s) (er : M2 0 13 = nI s) (ej : ∀ j : Nat, j < s → X2 53 j = M2 9 j) (hg : ∀ j, j < s → xX0_gapAt (sh 25 X2) (nI j) = gp j ∧ xX5_gapOf (sh 4 M2) (nI j) = gp j) (p : Int32) : ∀ (k j : Nat), j ≤ 1000 → ∃ a : Int32, xX4_fitsTheRow_l62 k X2 p (nI j) = (a, X2) ∧ xX5_isAsTold_l32 k M2 p (nI j) = (a, M2) := by
  have esz : xX1_size 10 (sh 52 X2) = nI s := es
  intro k
  induction k with
  | zero =>
    intro j _
    rw [xX4_fitsTheRow_l62, xX5_isAsTold_l32]
    exact ⟨0, rfl, rfl⟩
  | succ k ih =>
    intro j hj
    rw [xX4_fitsTheRow_l62, xX5_isAsTold_l32, esz, er]
    by_cases c : nI s ≤ nI j
    · rw [if_pos c, if_pos c]
      exact ⟨1, rfl, rfl⟩
    · rw [if_neg c, if_neg c]
      have c2 : j < s := nlt (by omega) (by omega) c
      have ji : (nI j).toInt = j := nI_toInt (by omega)
      have ea : xX1_at 10 (sh 52 X2) (nI j) = M2 9 j := by
        rw [at_in (S := sh 52 X2) es (by rw [ji]; omega) c, ji]
        exact ej j c2
      rw [ea, (hg j c2).1, (hg j c2).2, abs_sym, nI_clamp (by omega)]
      by_cases d : xX5_amount (gp j - M2 9 j) ≤ p
      · rw [if_pos d, if_pos d, nm_eq, nm_eq, nI_1]
        exact ih (j + 1) (by omega)
      · rw [if_neg d, if_neg d]
        exact ⟨0, rfl, rfl⟩
theorem fits_u {X Q : St} {v : Nat → Int32} {s : Nat} (p : Int32) (es : X 52 1 = nI s) : ∀ (k i : Nat) (X2 : St), i ≤ 3000 → 3000 - i < k → (∀ c, c < 25 ∨ 37 ≤ c → X2 c = X c) → RB (sh 25 X2) (rIt v Q i) v → ∃ (i2 : Nat) (X3 : St), xX4_fitsTheRow_l11 k X2 p (nI i) = xX4_fitsTheRow_j43 X3 p ∧ (∀ c, c < 25 ∨ 37 ≤ c → X3 c = X c) ∧ RB (sh 25 X3) (rIt v Q i2) v ∧ i2 ≤ 3000 ∧ (i2 = 3000 ∨ nI s ≤ xX0_gaps (sh 25 X3)) := by
  intro k
  induction k with
  | zero => intro i X2 _ hk; exact absurd hk (Nat.not_lt_zero _)
  | succ k ih =>
    intro i X2 hi hk hX hb
    have ii : (nI i).toInt = i := nI_toInt (by omega)
    have esz : xX1_size 10 (sh 52 X2) = nI s := by
      show X2 52 1 = nI s
      rw [hX 52 (by decide)]; exact es
    rw [xX4_fitsTheRow_l11, esz]
    by_cases c : 3000 ≤ i
    · rw [if_pos (show (3000 : Int32) ≤ nI i by rw [Int32.le_iff_toInt_le, ii, show (3000 : Int32).toInt = 3000 from rfl]; omega)]
      exact ⟨i, X2, rfl, hX, hb, hi, Or.inl (by omega)⟩
    · rw [if_neg (show ¬ (3000 : Int32) ≤ nI i by rw [i_le, ii, show (3000 : Int32).toInt = 3000 from rfl]; omega)]
      by_cases d : nI s ≤ xX0_gaps (sh 25 X2)
      · rw [if_pos d]
        exact ⟨i, X2, rfl, hX, hb, hi, Or.inr d⟩
      · rw [if_neg d]
        obtain ⟨M13, e13⟩ : ∃ M, M = put 25 12 (xX0_tenth (sh 25 X2)) X2 := ⟨_, rfl⟩
        simp only [nm_eq]
        rw [← e13, nI_1]
        have p2 := put25 e13
        obtain ⟨s1, s2⟩ := step_rel (N := rIt v Q (i + 1)) hb p2.1 (by rw [rIt_s])
        exact ih (i + 1) M13 (by omega) (by omega) (fun c hc => (p2.2 c hc).trans (hX c hc)) s1
theorem fits_rel {T : Nat} {X R : St} {dry slip : Int32} {z y : Int32 × St} {s : Nat} (h : REL T X R) (hm : MH X) (hs : R 0 13 = nI s) (s1 : 1 ≤ s) (s10 : s ≤ 10) (ez : z = xX4_fitsTheRow X dry slip) (ey : y = xX5_isAsTold R dry slip) : z.1 = y.1 ∧ FX X z.2 ∧ F4 R y.2 := by
  obtain ⟨t1, t2⟩ := h.2.2.2.1
  have es : X 52 1 = nI s := t1.trans hs
  have si : (nI s).toInt = s := nI_toInt (by omega)
  unfold xX4_fitsTheRow at ez
  unfold xX5_isAsTold at ey
  obtain ⟨M1, e1, ez⟩ := nm_el ez
  obtain ⟨y1, f1, ey⟩ := nm_el ey
  obtain ⟨N2, f2, ey⟩ := nm_el ey
  obtain ⟨x3, f3, ey⟩ := nm_el ey
  obtain ⟨Q, q1, q2, q3, q4, q5, q6⟩ := S_q (n := 3000) h hm (k := 8) rfl (by decide) (sv_o h.1.2.1 (by decide) (by decide) (by decide) (by decide)) rfl e1 f1
  rw [← f2] at q5 q6
  have mk : mu 0 3000 + 1 = 3001 := by decide +kernel
  obtain ⟨K, hK⟩ : ∃ K, K = 3001 := ⟨_, rfl⟩
  rw [mk, ← hK] at ez
  obtain ⟨i2, X3, u1, u2, u3, u4, u5⟩ := fits_u (s := s) slip es K 0 M1 (by decide) (by omega) q1.1 (by rw [rIt_0]; exact q1.2.1)
  have ez : z = xX4_fitsTheRow_j43 X3 slip := ez.trans u1
  obtain ⟨g, g59, ga, gr, g89⟩ := gaps_rel u3.1 u3.2.1.1
  have esz : xX1_size 10 (sh 52 X3) = nI s := by
    show X3 52 1 = nI s
    rw [u2 52 (by decide)]; exact es
  have nr : N2 0 13 = nI s := by rw [q6 0 (by decide)]; exact hs
  have fx3 : FX X X3 := ⟨u2, u3.1.mh u3.2.1.1⟩
  unfold xX4_fitsTheRow_j43 at ez
  rw [esz, ga] at ez
  rw [nr] at ey
  have dr := run_drum q1.2.1 i2 (3000 - i2)
  rw [show i2 + (3000 - i2) = 3000 by omega, ← q5] at dr
  have z3 := (run_rel q1.2.1 3000).1.2.1.1
  rw [← q5] at z3
  have gi2 : (nI g).toInt = g := nI_toInt (by omega)
  have s1i : (nI s + 1).toInt = s + 1 := by rw [i_inc (by omega), si]
  by_cases c : s ≤ g
  · rw [if_pos (nI_le c (by omega))] at ez
    have hr : (rIt (R 0) Q i2 0 89).toInt = g + 1 := by
      rcases g89 with q | q
      · exact q
      · omega
    rw [if_pos (show nI s + 1 ≤ N2 4 89 by rw [Int32.le_iff_toInt_le, s1i]; omega)] at ey
    obtain ⟨gp, hgp⟩ : ∃ gp : Nat → Int32, ∀ i, gp i = rIt (R 0) Q i2 0 (29 + i + 1) - rIt (R 0) Q i2 0 (29 + i) := ⟨_, fun _ => rfl⟩
    have hg : ∀ j, j < s → xX0_gapAt (sh 25 X3) (nI j) = gp j ∧ xX5_gapOf (sh 4 N2) (nI j) = gp j := by
      intro j hj
      refine ⟨?_, ?_⟩
      · rw [gapAt_rel u3.1 ga hr (by omega) g59, hgp]
      · rw [gapOf_rel (M := sh 4 N2) (by omega), hgp]
        show N2 4 (29 + j + 1) - N2 4 (29 + j) = _
        have a1 : N2 4 (29 + j + 1) = rIt (R 0) Q i2 0 (29 + j + 1) := dr.2 (j + 1) (by omega)
        have a0 : N2 4 (29 + j) = rIt (R 0) Q i2 0 (29 + j) := dr.2 j (by omega)
        rw [a1, a0]
    obtain ⟨a, b1, b2⟩ := fit_l (X2 := X3) (M2 := N2) s10 (by rw [u2 52 (by decide)]; exact es) nr (fun j hj => by rw [u2 53 (by decide), q6 9 (by decide)]; exact t2 j (by rw [hs, si]; omega)) hg slip (mu 0 (nI s) + 1) 0 (by decide)
    have ez2 := ez.trans b1
    have ey2 := ey.trans b2
    rw [ez2, ey2]
    exact ⟨rfl, fx3, q6⟩
  · rw [if_neg (nI_ge (by omega) (by omega))] at ez
    have i3 : i2 = 3000 := by
      rcases u5 with q | q
      · exact q
      · rw [ga] at q
        exact absurd q (nI_ge (by omega) (by omega))
    rw [i3, ← q5] at g89
    rw [if_neg (show ¬ nI s + 1 ≤ N2 4 89 by rw [i_le, s1i]; omega)] at ey
    rw [ez, ey]
    exact ⟨rfl, fx3, q6⟩
theorem driest_l {T s : Nat} {slip what : Int32} (s1 : 1 ≤ s) (s10 : s ≤ 10) : ∀ (k : Nat) (X R : St) (d m : Nat) (a b : Int32), REL T X R → MH X → R 0 13 = nI s → d ≤ 1000 → m ≤ d → ((m = 0 ∧ a = -9) ∨ (m ≠ 0 ∧ 0 ≤ a)) → LO T (xX4_driest_l79 k X slip what a b (nI m) (nI d)) (xX5_driest_l62 k R slip what a b (nI m) (nI d)) := by
  intro k
  induction k with
  | zero =>
    intro X R d m a b h hm hs hd hmd hl
    rw [xX4_driest_l79, xX5_driest_l62]
    exact ⟨rfl, h⟩
  | succ k ih =>
    intro X R d m a b h hm hs hd hmd hl
    have di : (nI d).toInt = d := nI_toInt (by omega)
    rw [xX4_driest_l79, xX5_driest_l62]
    by_cases c : 95 < d
    · have c' : (95 : Int32) < nI d := by rw [Int32.lt_iff_toInt_lt, di, show (95 : Int32).toInt = 95 from rfl]; omega
      rw [if_pos c', if_pos c']
      by_cases w0 : what = 0
      · rw [if_pos w0, if_pos w0]
        exact ⟨rfl, h⟩
      · rw [if_neg w0, if_neg w0]
        by_cases w1 : what = 1
        · rw [if_pos w1, if_pos w1]
          exact ⟨rfl, h⟩
        · rw [if_neg w1, if_neg w1]
          exact ⟨rfl, h⟩
    · have c' : ¬ (95 : Int32) < nI d := by rw [i_lt, di, show (95 : Int32).toInt = 95 from rfl]; omega
      rw [if_neg c', if_neg c']
      obtain ⟨z, ez⟩ : ∃ z, z = xX4_fitsTheRow X (nI d) slip := ⟨_, rfl⟩
      obtain ⟨y, ey⟩ : ∃ y, y = xX5_isAsTold R (nI d) slip := ⟨_, rfl⟩
      obtain ⟨r1, r2, r3⟩ := fits_rel h hm hs s1 s10 ez ey
      have h2 := h.fx r2 r3
      simp only [nm_eq]
      rw [← ez, ← ey, show nI d + 5 = nI (d + 5) from nI_add d 5, r1, nI_1]
      have hs2 : y.2 0 13 = nI s := by rw [r3 0 (by decide)]; exact hs
      by_cases w : y.1 = 0
      · rw [if_pos w, if_pos w]
        exact ih z.2 y.2 (d + 5) m a b h2 r2.2 hs2 (by omega) (by omega) hl
      · rw [if_neg w, if_neg w]
        have hd0 : (0 : Int32) ≤ nI d := nI_pos' (by omega)
        rcases hl with ⟨l1, l2⟩ | ⟨l1, l2⟩
        · rw [if_pos (show nI m = 0 by rw [l1]; rfl), if_neg (show ¬ (0 : Int32) ≤ a by rw [l2]; decide)]
          exact ih z.2 y.2 (d + 5) (m + 1) (nI d) (nI d) h2 r2.2 hs2 (by omega) (by omega) (Or.inr ⟨by omega, hd0⟩)
        · rw [if_neg (show ¬ nI m = 0 from nI_ne0 (by omega) (by omega)), if_pos l2]
          exact ih z.2 y.2 (d + 5) (m + 1) a (nI d) h2 r2.2 hs2 (by omega) (by omega) (Or.inr ⟨by omega, l2⟩)
theorem C_driest {T : Nat} {X R : St} {p0 p1 : Int32} {z y : Int32 × St} (h : REL T X R) (hm : MH X) (hZ : Zmod R) (ez : z = xX4_driest X p0 p1) (ey : y = xX5_driest R p0 p1) : OUT T z y := by
  have hs0 : 0 ≤ (R 0 13).toInt ∧ (R 0 13).toInt ≤ 10 := hZ.2.2.2.2
  obtain ⟨s, hs, s10⟩ : ∃ s : Nat, R 0 13 = nI s ∧ s ≤ 10 := ⟨(R 0 13).toInt.toNat, nIt hs0.1, by omega⟩
  have es : xX1_size 10 (sh 52 X) = nI s := h.2.2.2.1.1.trans hs
  unfold xX4_driest at ez
  unfold xX5_driest at ey
  have out : (p1 < 0 ∨ nI 3 ≤ p1) → OUT T z y := by
    intro q
    rw [show (3 : Int32) = nI 3 from rfl, isIn_0 q, if_pos rfl] at ey
    refine ref_out h rf2 ?_ ey
    by_cases c : p1 < 0
    · rw [if_pos c] at ez
      exact ez
    · have q2 := Int32.le_iff_toInt_le.mp (q.resolve_left c)
      rw [show (nI 3).toInt = 3 from rfl] at q2
      rw [if_neg c, if_neg (by rw [i_le, show (2 : Int32).toInt = 2 from rfl]; omega)] at ez
      exact ez
  rcases pk_ix p1 (n := 3) (by decide) with q | q | ⟨k, hk, q⟩
  · exact out (Or.inl q)
  · exact out (Or.inr q)
  · have ki : p1.toInt = k := by rw [q]; exact nI_toInt (by omega)
    rw [if_neg (by rw [i_lt, z32]; omega), if_pos (by rw [Int32.le_iff_toInt_le, show (2 : Int32).toInt = 2 from rfl]; omega)] at ez
    have ii : xX5_isIn p1 3 = 1 := by rw [q]; exact isIn_1 hk (by decide)
    rw [ii, if_neg (by decide)] at ey
    obtain ⟨a, ea, ez⟩ := nm_el ez
    obtain ⟨b, eb, ez⟩ := nm_el ez
    obtain ⟨w, ew, ey⟩ := nm_el ey
    obtain ⟨v5, e5, ey⟩ := nm_el ey
    have hw := ew.trans (within_g ea eb)
    obtain ⟨B, hB⟩ : ∃ B : Int32 × St, B = if R 0 13 = 0 then (nm (xX5_refuse R (-3)) fun z25 => nm (z25.2) fun M26 => (z25.1, M26)) else (nm ((-9) : Int32) fun x7 => nm ((-9) : Int32) fun x8 => xX5_driest_l62 (muE 0 95 + 1) R p0 p1 x7 x8 0 0) := ⟨_, rfl⟩
    have ey2 : y = if w = 0 then B else (nm (xX5_refuse R w) fun z5 => nm z5.2 fun M6 => (z5.1, M6)) := by
      by_cases c : w = 0
      · rw [if_pos c] at e5 ⊢
        rw [hB]
        by_cases d : R 0 13 = 0
        · rw [if_pos d] at e5 ⊢
          rw [if_neg (by rw [e5]; decide), e5] at ey
          exact ey
        · rw [if_neg d] at e5 ⊢
          rw [if_pos (by rw [e5]; exact c)] at ey
          exact ey
      · rw [if_neg c] at e5 ⊢
        rw [if_neg (by rw [e5]; exact c), e5] at ey
        exact ey
    refine guard_rel h hw ez ey2 (fun ha hb ez ey => ?_)
    rw [es] at ez
    rw [hB, hs] at ey
    by_cases c : s = 0
    · rw [if_pos (show nI s = 0 by rw [c]; rfl)] at ez ey
      exact ref_out h rf3 ez ey
    · rw [if_neg (show ¬ nI s = 0 from nI_ne0 (by omega) (by omega))] at ez ey
      simp only [nm_eq] at ez ey
      exact (driest_l (by omega) s10 (muE 0 95 + 1) X R 0 0 (-9) (-9) h hm hs (by decide) (Nat.le_refl _) (Or.inl ⟨rfl, rfl⟩)).out ez ey
/-! sorts, odds -/
def un : Nat → Int32
  | 0 => 10000
  | 1 => 100
  | 2 => 1
  | _ => 0
theorem up_comm {r : Nat → Int32} {k1 k2 : Nat} {v1 v2 : Int32} (h : k1 ≠ k2) : up (up r k1 v1) k2 v2 = up (up r k2 v2) k1 v1 := by
  funext j
  by_cases e : j = k2
  · rw [e, up_eq, up_ne (Ne.symm h), up_eq]
  · rw [up_ne e]
    by_cases f : j = k1
    · rw [f, up_eq, up_eq]
    · rw [up_ne f, up_ne f, up_ne e]
theorem sort_l {T : Nat} {R : St} {sort p0 p1 v1 : Int32} {x1 : Int32} : ∀ (q k1 k2 : Nat) (X R' : St) (j : Nat) (g : Int32), j + q = 3 → q < k1 → q < k2 → REL T X R → MH X → R' 2 = up (R 2) 3 sort → (∀ c, c ≠ 2 → c ≠ 4 → R' c = R c) → (g = 0 ∨ g = 1) → ∃ (X2 R2 : St) (g2 : Int32), xX4_sortBits_l20 k1 X p0 p1 v1 sort g (un j) = (X2, g2) ∧ xX5_isSort_l26 k2 R' p0 p1 x1 g (un j) (nI j) = xX5_isSort_j83 R2 x1 g2 ∧ REL T X2 R ∧ MH X2 ∧ F4 R' R2 ∧ (g2 = 0 ∨ g2 = 1) := by
  intro q
  induction q with
  | zero =>
    intro k1 k2 X R' j g hj h1 h2 h hm hr hc hg
    obtain ⟨k1', rfl⟩ : ∃ k, k1 = k + 1 := ⟨k1 - 1, by omega⟩
    obtain ⟨k2', rfl⟩ : ∃ k, k2 = k + 1 := ⟨k2 - 1, by omega⟩
    rw [xX4_sortBits_l20, xX5_isSort_l26, show j = 3 by omega, if_pos (show un 3 < 1 by decide +kernel), if_pos (show (3 : Int32) ≤ nI 3 by decide +kernel)]
    exact ⟨X, R', g, rfl, rfl, h, hm, F4.refl _, hg⟩
  | succ q ih =>
    intro k1 k2 X R' j g hj h1 h2 h hm hr hc hg
    obtain ⟨k1', rfl⟩ : ∃ k, k1 = k + 1 := ⟨k1 - 1, by omega⟩
    obtain ⟨k2', rfl⟩ : ∃ k, k2 = k + 1 := ⟨k2 - 1, by omega⟩
    have hun : ∀ j, j < 3 → ¬ un j < 1 ∧ ¬ (3 : Int32) ≤ nI j ∧ un j / 100 = un (j + 1) := by decide +kernel
    obtain ⟨a1, a2, a3⟩ := hun j (by omega)
    rw [xX4_sortBits_l20, xX5_isSort_l26, if_neg a1, if_neg a2]
    by_cases g0 : g = 0
    · rw [if_pos g0, if_pos g0]
      exact ⟨X, R', g, rfl, rfl, h, hm, F4.refl _, hg⟩
    · rw [if_neg g0, if_neg g0]
      obtain ⟨d, ed⟩ : ∃ d : Int32, d = (p0 / un j) - (p0 / un j) / 100 * 100 := ⟨_, rfl⟩
      obtain ⟨e, ee⟩ : ∃ e : Int32, e = (p1 / un j) - (p1 / un j) / 100 * 100 := ⟨_, rfl⟩
      rw [← ed, ← ee]
      obtain ⟨X2, e2⟩ : ∃ X2, X2 = xX4_freshWith X 3 sort := ⟨_, rfl⟩
      obtain ⟨X3, e3⟩ : ∃ X3, X3 = put 25 12 (xX0_with (sh 25 X2) 8 d) X2 := ⟨_, rfl⟩
      obtain ⟨z, ez⟩ : ∃ z, z = xX0_nodsIn (sh 25 X3) 1000 := ⟨_, rfl⟩
      obtain ⟨X4, e4⟩ : ∃ X4, X4 = put 25 12 z.2 X3 := ⟨_, rfl⟩
      obtain ⟨y, ey⟩ : ∃ y, y = xX5_freshBy R' 8 d 1000 := ⟨_, rfl⟩
      simp only [nm_eq]
      rw [← e2, ← e3, ← ez, ← e4, ← ey, a3, nI_1]
      have st : STT (up (R' 2) 8 d) := by
        rw [hr]
        exact h.1.2.1.2.2.fr2 (by decide) (by decide)
      obtain ⟨Q, q1, q2, q3, q4⟩ := freshBy_eq (p0 := 8) (k := 8) (n := 1000) rfl (by decide) rfl st.f ey
      rw [hr] at q1 st
      have ri : RI (Q 0) := q1.ri (by rw [up_ne (by decide), up_ne (by decide)]; exact h.1.2.1.1.2.2) st
      rw [hc 0 (by decide) (by decide)] at q2 q3
      rw [up_comm (by decide)] at q1
      have md := md_two h hm (p1 := 3) (p2 := 8) rfl rfl (by decide) (by decide) (by decide) (by decide) (sv_o h.1.2.1 (by decide) (by decide) (by decide) (by decide)) q1 ri e2 e3
      obtain ⟨w1, w2, w3⟩ := md_in (n := 1000) md rfl (by decide) ez e4
      rw [w1, q2]
      have hg2 : (if rIt (R 0) Q 1000 0 23 = e then (1 : Int32) else 0) = 0 ∨ (if rIt (R 0) Q 1000 0 23 = e then (1 : Int32) else 0) = 1 := by
        by_cases w : rIt (R 0) Q 1000 0 23 = e
        · rw [if_pos w]; exact Or.inr rfl
        · rw [if_neg w]; exact Or.inl rfl
      obtain ⟨A, B, g2, i1, i2, i3, i4, i5, i6⟩ := ih k1' k2' X4 y.2 (j + 1) (if rIt (R 0) Q 1000 0 23 = e then 1 else 0) (by omega) (by omega) (by omega) (h.fx w3 (F4.refl R)) w3.2 ((q4 2 (by decide)).trans hr) (fun c h1 h2 => (q4 c h2).trans (hc c h1 h2)) hg2
      exact ⟨A, B, g2, i1, i2, i3, i4, q4.trans i5, i6⟩
theorem bits_c : ∀ d, d < 10 → (1 : Int32) <<< (nI d &&& 31) = nI (2 ^ d) := by decide +kernel
theorem nI_or (a b : Nat) : nI a ||| nI b = nI (a ||| b) := by
  apply Int32.toBitVec_inj.mp
  show (BitVec.ofNat 32 a) ||| (BitVec.ofNat 32 b) = BitVec.ofNat 32 (a ||| b)
  apply BitVec.eq_of_toNat_eq
  rw [BitVec.toNat_or, BitVec.toNat_ofNat, BitVec.toNat_ofNat, BitVec.toNat_ofNat, Nat.or_mod_two_pow]
theorem sorts_l {T : Nat} {p0 p1 : Int32} : ∀ (k : Nat) (X R : St) (d a : Nat), REL T X R → MH X → 1 ≤ d → d ≤ 10 → a < 1024 → ∃ (X2 R2 : St) (b : Nat), xX4_sortBits_l5 k X p0 p1 (nI a) (nI d) = (nI b, X2) ∧ xX5_sortsOf_l5 k R p0 p1 (nI a) (nI d) = (nI b, R2) ∧ b < 1024 ∧ REL T X2 R2 := by
  intro k
  induction k with
  | zero =>
    intro X R d a h hm h1 hd ha
    rw [xX4_sortBits_l5, xX5_sortsOf_l5]
    exact ⟨X, R, 0, rfl, rfl, by decide, h⟩
  | succ k ih =>
    intro X R d a h hm h1 hd ha
    have di : (nI d).toInt = d := nI_toInt (by omega)
    rw [xX4_sortBits_l5, xX5_sortsOf_l5]
    by_cases c : 10 ≤ d
    · rw [if_pos (show (9 : Int32) < nI d by rw [Int32.lt_iff_toInt_lt, di, show (9 : Int32).toInt = 9 from rfl]; omega), if_pos (show (10 : Int32) ≤ nI d by rw [Int32.le_iff_toInt_le, di, show (10 : Int32).toInt = 10 from rfl]; omega)]
      exact ⟨X, R, a, rfl, rfl, ha, h⟩
    · rw [if_neg (show ¬ (9 : Int32) < nI d by rw [i_lt, di, show (9 : Int32).toInt = 9 from rfl]; omega), if_neg (show ¬ (10 : Int32) ≤ nI d by rw [i_le, di, show (10 : Int32).toInt = 10 from rfl]; omega)]
      obtain ⟨N2, f2⟩ : ∃ N, N = sa R 2 (up (R 2) 3 (nI d)) := ⟨_, rfl⟩
      have n2 : N2 2 = up (R 2) 3 (nI d) := by rw [f2, sa_eq]
      have nc : ∀ c, c ≠ 2 → c ≠ 4 → N2 c = R c := fun c h1 _ => by rw [f2, sa_ne h1]
      have fa : ((10000 : Int32).toInt.toNat + 1) = 10001 := by decide +kernel
      have fb : mu 0 3 + 1 = 4 := by decide +kernel
      obtain ⟨ka, hka⟩ : ∃ k, k = 10001 := ⟨_, rfl⟩
      obtain ⟨kb, hkb⟩ : ∃ k, k = 4 := ⟨_, rfl⟩
      obtain ⟨X2, R2, g2, i1, i2, i3, i4, i5, i6⟩ := sort_l (p0 := p0) (p1 := p1) (v1 := nI a) (x1 := R 2 3) 3 ka kb X N2 0 1 rfl (by omega) (by omega) h hm n2 nc (Or.inr rfl)
      have u0 : un 0 = 10000 := rfl
      have z0 : nI 0 = (0 : Int32) := rfl
      rw [u0] at i1
      rw [u0, z0] at i2
      unfold xX5_isSort
      simp only [nm_eq]
      rw [← f2, fa, fb, ← hka, ← hkb, i1, i2]
      unfold xX5_isSort_j83
      obtain ⟨N9, f9⟩ : ∃ N, N = sa R2 2 (up (R2 2) 3 (R 2 3)) := ⟨_, rfl⟩
      simp only [nm_eq]
      rw [← f9, nI_1, bits_c d (by omega)]
      have n92 : N9 2 = R 2 := by
        rw [f9, sa_eq, i5 2 (by decide), n2]
        funext j
        by_cases c : j = 3
        · rw [c, up_eq]
        · rw [up_ne c, up_ne c]
      have n9 : ∀ c, c ≠ 4 → N9 c = R c := by
        intro c h4
        by_cases c2 : c = 2
        · rw [c2]; exact n92
        · rw [f9, sa_ne c2, i5 c h4, nc c c2 h4]
      have h9 : REL T X2 N9 := i3.fr (fun _ _ => rfl) (fun c hc => n9 c (by omega)) (fun j _ => by rw [n9 0 (by decide)])
      rcases i6 with g | g
      · rw [if_pos g, if_pos g, Int32.or_zero]
        exact ih X2 N9 (d + 1) a h9 i4 (by omega) (by omega) ha
      · rw [if_neg (by rw [g]; decide), if_neg (by rw [g]; decide), nI_or]
        have h2 : 2 ^ d < 2 ^ 10 := Nat.pow_lt_pow_right (by decide) (by omega)
        exact ih X2 N9 (d + 1) (a ||| 2 ^ d) h9 i4 (by omega) (by omega) (Nat.or_lt_two_pow (n := 10) ha h2)
theorem sb_rel {T : Nat} {X R : St} {p0 p1 : Int32} {z y : Int32 × St} (h : REL T X R) (hm : MH X) (ez : z = xX4_sortBits X p0 p1) (ey : y = xX5_sortsOf R p0 p1) : ∃ b : Nat, z.1 = nI b ∧ y.1 = nI b ∧ b < 1024 ∧ REL T z.2 y.2 := by
  unfold xX4_sortBits at ez
  unfold xX5_sortsOf at ey
  rw [show muE 1 9 + 1 = mu 1 10 + 1 from by decide +kernel] at ez
  obtain ⟨X2, R2, b, i1, i2, i3, i4⟩ := sorts_l (p0 := p0) (p1 := p1) (mu 1 10 + 1) X R 1 0 h hm (by decide) (by decide) (by decide)
  have ez2 := ez.trans i1
  have ey2 := ey.trans i2
  rw [ez2, ey2]
  exact ⟨b, rfl, rfl, i3, i4⟩
theorem C_sorts {T : Nat} {X R : St} {p0 p1 : Int32} {z y : Int32 × St} (h : REL T X R) (hm : MH X) (ez : z = xX4_sorts X p0 p1) (ey : y = xX5_sorts R p0 p1) : OUT T z y := by
  unfold xX4_sorts at ez
  unfold xX5_sorts xX5_wrongSorts at ey
  obtain ⟨a, ea, ez⟩ := nm_el ez
  obtain ⟨b, eb, ez⟩ := nm_el ez
  obtain ⟨w, ew, ey⟩ := nm_el ey
  refine guard_rel h (ew.trans (two_g ea eb)) ez ey (fun ha hb ez ey => ?_)
  obtain ⟨z11, e11, ez⟩ := nm_el ez
  obtain ⟨y3, f3, ey⟩ := nm_el ey
  rw [nm_eq] at ez ey
  obtain ⟨b, s1, s2, s3, s4⟩ := sb_rel h hm e11 f3
  rw [ez, ey]
  exact ⟨s1.trans s2.symm, s4.mono (by omega)⟩
noncomputable def oc : Nat → Int32 → Int32 → Int32
  | 0, _, _ => 0
  | k + 1, c, v => if v ≤ 0 then c else oc k (c + (v &&& 1)) (v >>> (1 &&& 31))
theorem odds_o {M : St} {p3 : Int32} (hp : p3 = 0 ∨ p3 = 1) : ∀ (k : Nat) (c v : Int32), v.toInt.toNat < k → xX5_odds_l75 k M p3 c v = (if p3 = 0 then 1 else oc k c v, M) := by
  intro k
  induction k with
  | zero => intro c v h; exact absurd h (Nat.not_lt_zero _)
  | succ k ih =>
    intro c v h
    rw [xX5_odds_l75, oc]
    by_cases w : v ≤ 0
    · rw [if_pos w, if_pos w]
      split <;> rfl
    · rw [if_neg w, if_neg w]
      simp only [nm_eq]
      exact ih _ _ (shr_dec w h)
theorem odds_c : ∀ b, b < 1024 → oc (b + 1) 0 (nI b) = xJ6_bitCount_0f7a4 (nI b) := by decide +kernel
theorem odds_b : ∀ (p b : Nat), (((nI b >>> (nI p &&& 31)) &&& 1) = 0 ∨ ((nI b >>> (nI p &&& 31)) &&& 1) = 1) := by
  intro p b
  obtain ⟨j, hj, e⟩ := pk_andE (nI b >>> (nI p &&& 31)) (m := 1) 1 (by decide +kernel)
  rw [e]
  have j2 : j = 0 ∨ j = 1 := by omega
  rcases j2 with j2 | j2
  · exact Or.inl (by rw [j2]; rfl)
  · exact Or.inr (by rw [j2]; rfl)
