/-! latest -/
def LR (a w : Int32) : Prop := (a = -1 ∧ w = -9) ∨ (a = w ∧ 0 ≤ w.toInt)
theorem lr_c {a w b v : Int32} (h : LR a w) (h2 : LR b v) : a ≤ b ↔ ¬ v < w := by
  have m1 : (-1 : Int32).toInt = -1 := rfl
  have m9 : (-9 : Int32).toInt = -9 := rfl
  rw [Int32.le_iff_toInt_le, i_lt]
  rcases h with ⟨h, h'⟩ | ⟨h, h'⟩
  · rcases h2 with ⟨g, g'⟩ | ⟨g, g'⟩
    · rw [h, h', g, g', m1, m9]; omega
    · rw [h, h', g, m1, m9]; omega
  · rcases h2 with ⟨g, g'⟩ | ⟨g, g'⟩
    · rw [h, g, g', m1, m9]; omega
    · rw [h, g]
theorem nods_c {x y : Int32} {i : Nat} (hx : 0 ≤ x.toInt ∧ x.toInt ≤ i) (hi : i ≤ 100000) (h : y = x ∨ y = x + 1) : (y - x ≤ 0 ↔ y ≤ x) ∧ 0 ≤ y.toInt ∧ y.toInt ≤ (i + 1 : Nat) := by
  rcases h with h | h
  · rw [h, Int32.sub_self]
    exact ⟨⟨fun _ => Int32.le_iff_toInt_le.mpr (Int.le_refl _), fun _ => by decide⟩, by omega, by omega⟩
  · have e : y.toInt = x.toInt + 1 := by rw [h, i_inc (by omega)]
    have d : (y - x).toInt = 1 := by rw [i_sub (by omega) (by omega)]; omega
    rw [Int32.le_iff_toInt_le, Int32.le_iff_toInt_le, d, z32]
    exact ⟨by omega, by omega, by omega⟩
theorem last_l {p v5 v6 v7 : Int32} : ∀ (k i : Nat) (b M : St) (a w : Int32), i + k ≤ 100000 → RB b (sh 4 M) (M 0) → M 4 22 = nI i → 0 ≤ (M 4 23).toInt ∧ (M 4 23).toInt ≤ i → LR a w → ∃ (a2 w2 : Int32) (b2 M2 : St), xX0_lastNodIn_l4 k b p a (nI i) = (a2, b2) ∧ xX5_latest_l52 k M p v5 v6 v7 w (nI i) = (M2, w2) ∧ LR a2 w2 ∧ (∃ r, BE 0 b2 r ∧ rz r) ∧ F4 M M2 := by
  intro k
  induction k with
  | zero =>
    intro i b M a w _ hb _ _ _
    rw [xX0_lastNodIn_l4, xX5_latest_l52]
    exact ⟨0, 0, b, M, rfl, rfl, Or.inr ⟨rfl, by decide⟩, ⟨_, hb.1, hb.2.1.1⟩, F4.refl _⟩
  | succ k ih =>
    intro i b M a w hi hb ht hn hl
    rw [xX0_lastNodIn_l4, xX5_latest_l52]
    by_cases c : p ≤ nI i
    · rw [if_pos c, if_pos c]
      exact ⟨a, w, b, M, rfl, rfl, hl, ⟨_, hb.1, hb.2.1.1⟩, F4.refl _⟩
    · rw [if_neg c, if_neg c]
      obtain ⟨z, ez⟩ : ∃ z, z = xX0_tenth b := ⟨_, rfl⟩
      obtain ⟨N, eN⟩ : ∃ N, N = put 4 1 (xX5_tenth (M 0) (sh 4 M)) M := ⟨_, rfl⟩
      simp only [nm_eq]
      rw [nods1, ← ez, ← eN, nI_1]
      have nc : ∀ c, c ≠ 4 → N c = M c := fun c hc => by rw [eN, put_out (by omega)]
      have n4 : N 4 = xX5_tenth (M 0) (sh 4 M) 0 := by rw [eN]; exact put_in (by decide) (by decide)
      obtain ⟨s1, s2⟩ := step_rel (z := z) (N := sh 4 N) hb (fun c _ => by rw [ez]) n4
      have e1 : b 0 11 = M 4 23 := hb.1.nods
      have e2 : z 0 11 = N 4 23 := s1.1.nods
      have e3 : z 0 10 = N 4 22 := s1.1.time
      have e4 : N 4 22 = nI (i + 1) := by
        have t : N 4 22 = M 4 22 + 1 := s2.2.1
        rw [t, ht, nI_1]
      have hor : N 4 23 = M 4 23 ∨ N 4 23 = M 4 23 + 1 := by
        rcases s2.2.2 with ⟨q, -⟩ | ⟨q, -⟩
        · exact Or.inl q
        · exact Or.inr q
      obtain ⟨c1, c2⟩ := nods_c hn (by omega) hor
      have s1' : RB z (sh 4 N) (N 0) := by rw [nc 0 (by decide)]; exact s1
      dsimp only
      rw [e1, e2, e3, e4, nI_pred]
      have f4 : F4 M N := nc
      by_cases d : N 4 23 ≤ M 4 23
      · rw [if_pos (c1.mpr d), if_pos d]
        obtain ⟨a2, w2, b2, M2, i1, i2, i3, i4, i5⟩ := ih (i + 1) z N a w (by omega) s1' e4 c2 hl
        exact ⟨a2, w2, b2, M2, i1, i2, i3, i4, f4.trans i5⟩
      · rw [if_neg (fun q => d (c1.mp q)), if_neg d]
        have ii : (nI i).toInt = i := nI_toInt (by omega)
        obtain ⟨a2, w2, b2, M2, i1, i2, i3, i4, i5⟩ := ih (i + 1) z N (nI i) (nI i) (by omega) s1' e4 c2 (Or.inr ⟨rfl, by rw [ii]; omega⟩)
        exact ⟨a2, w2, b2, M2, i1, i2, i3, i4, f4.trans i5⟩
theorem latest_l {T n : Nat} {p : Int32} (hn : p.toInt = n) (hn3 : n ≤ 3000) : ∀ (k : Nat) (X R : St) (d : Nat) (b a w : Int32), REL T X R → MH X → 1 ≤ d → d ≤ 1000 → LR a w → LO T (xX4_latest_l42 k X p b a (nI d)) (xX5_latest_l26 k R p b w (nI d)) := by
  intro k
  induction k with
  | zero =>
    intro X R d b a w h hm h1 hd hl
    rw [xX4_latest_l42, xX5_latest_l26]
    exact ⟨rfl, h⟩
  | succ k ih =>
    intro X R d b a w h hm h1 hd hl
    have di : (nI d).toInt = d := nI_toInt (by omega)
    rw [xX4_latest_l42, xX5_latest_l26]
    by_cases c : 5 ≤ d
    · rw [if_pos (show (4 : Int32) < nI d by rw [Int32.lt_iff_toInt_lt, di, show (4 : Int32).toInt = 4 from rfl]; omega), if_pos (show (5 : Int32) ≤ nI d by rw [Int32.le_iff_toInt_le, di, show (5 : Int32).toInt = 5 from rfl]; omega)]
      exact ⟨rfl, h⟩
    · rw [if_neg (show ¬ (4 : Int32) < nI d by rw [i_lt, di, show (4 : Int32).toInt = 4 from rfl]; omega), if_neg (show ¬ (5 : Int32) ≤ nI d by rw [i_le, di, show (5 : Int32).toInt = 5 from rfl]; omega)]
      obtain ⟨X2, e2⟩ : ∃ X2, X2 = xX4_freshWith X 6 (nI d) := ⟨_, rfl⟩
      obtain ⟨z, ez⟩ : ∃ z, z = xX0_lastNodIn (sh 25 X2) p := ⟨_, rfl⟩
      obtain ⟨X3, e3⟩ : ∃ X3, X3 = put 25 12 z.2 X2 := ⟨_, rfl⟩
      obtain ⟨N10, f10⟩ : ∃ N, N = xX5_fresh R := ⟨_, rfl⟩
      obtain ⟨N11, f11⟩ : ∃ N, N = sa N10 4 (up (N10 4) 6 (nI d)) := ⟨_, rfl⟩
      simp only [nm_eq]
      rw [← e2, ← ez, ← e3, ← f10, ← f11, nI_1]
      obtain ⟨r1, r2⟩ := fresh_row h.1.2.1.2.2.f f10
      have sv := sv_6 (v := nI d) h.1.2.1 (by rw [di]; omega) (by rw [di]; omega)
      have q11 : FRS (up (R 2) 6 (nI d)) (sh 4 N11 0) := by
        show FRS _ (N11 4)
        rw [f11, sa_eq]
        exact r1.up (by decide) (by decide)
      have md := fresh_md h hm (p := 6) (k := 6) rfl (by decide) q11 (sv.ri q11) e2
      have nc : ∀ c, c ≠ 4 → N11 c = R c := fun c hc => by rw [f11, sa_ne hc, r2 c hc]
      have hb : RB (sh 25 X2) (sh 4 N11) (N11 0) := by rw [nc 0 (by decide)]; exact md.2.1
      have t0 : N11 4 22 = nI 0 := md.2.2.2
      have n0 : N11 4 23 = 0 := md.2.2.1
      unfold xX0_lastNodIn at ez
      rw [nm_eq] at ez
      have mp : mu 0 p + 1 ≤ 5000 := by unfold mu; rw [z32]; omega
      obtain ⟨a2, w2, b2, M2, i1, i2, i3, ⟨rr, i4, i4'⟩, i5⟩ := last_l (p := p) (v5 := b) (v6 := w) (v7 := nI d) (mu 0 p + 1) 0 (sh 25 X2) N11 (-1) (-9) (by omega) hb t0 (by rw [n0]; decide) (Or.inl ⟨rfl, rfl⟩)
      have z0 : nI 0 = (0 : Int32) := rfl
      rw [z0] at i1 i2
      rw [i1] at ez
      rw [i2, ez]
      have fx : FX X X3 := md_fx md (u := z.2) (r := rr) (by rw [ez]; exact i4) i4' e3
      have fr : F4 R M2 := fun c hc => (i5 c hc).trans (nc c hc)
      have h2 := h.fx fx fr
      have lc := lr_c i3 hl
      by_cases q : w < w2
      · rw [if_neg (show ¬ a2 ≤ a from fun x => (lc.mp x) q), if_pos q]
        exact ih X3 M2 (d + 1) (nI d) a2 w2 h2 fx.2 (by omega) (by omega) i3
      · rw [if_pos (show a2 ≤ a from lc.mpr q), if_neg q]
        exact ih X3 M2 (d + 1) b a w h2 fx.2 (by omega) (by omega) hl
theorem C_latest {T : Nat} {X R : St} {p0 : Int32} {z y : Int32 × St} (h : REL T X R) (hm : MH X) (ez : z = xX4_latest X p0) (ey : y = xX5_latest R p0) : OUT T z y := by
  unfold xX4_latest at ez
  unfold xX5_latest xX5_wrongRun at ey
  obtain ⟨a, ea, ez⟩ := nm_el ez
  obtain ⟨b, eb, ez⟩ := nm_el ez
  obtain ⟨w, ew, ey⟩ := nm_el ey
  refine guard_rel h (ew.trans (within_g ea eb)) ez ey (fun ha hb ez ey => ?_)
  obtain ⟨n, hn, hn3⟩ := n3 (g_lo ea ha) (g_lo eb hb)
  simp only [nm_eq] at ez ey
  rw [show muE 1 4 + 1 = mu 1 5 + 1 from by decide +kernel] at ez
  exact (latest_l hn hn3 (mu 1 5 + 1) X R 1 (-9) (-1) (-9) h hm (by decide) (by decide) (Or.inl ⟨rfl, rfl⟩)).out ez ey
/-! together -/
theorem fresh_at {T : Nat} {X R X2 : St} {q : Nat → Int32} {p v : Int32} {k o : Nat} (h : REL T X R) (ho : 13 ≤ o) (hm : 0 ≤ (X (o + 4) 1).toInt ∧ 0 ≤ (X (o + 6) 1).toInt ∧ 0 ≤ (X (o + 8) 1).toInt) (hp : p = nI k) (hk : k < 15) (hq : FRS (up (R 2) k v) q) (e : X2 = put2 o 12 1 12 (xX0_hatch (sh2 o 12 1 X) p v) X) : BE 0 (sh o X2) q ∧ sh o X2 0 16 = -1 ∧ ∀ c, c < o ∨ o + 12 ≤ c → X2 c = X c := by
  obtain ⟨⟨h1, -, -, -⟩, -, -, -, -, h6⟩ := h
  obtain ⟨z, ez⟩ : ∃ z, z = xX0_hatch (sh2 o 12 1 X) p v := ⟨_, rfl⟩
  rw [← ez] at e
  have hs : SET (sh 12 (sh2 o 12 1 X)) (R 2) := by
    obtain ⟨⟨s1, s2⟩, -⟩ := h1
    exact ⟨by rw [sh2_g]; exact s1, fun j hj => by rw [sh2_g]; exact s2 j hj⟩
  have hg : sh2 o 12 1 X 12 3 = R 2 15 := by
    obtain ⟨-, ⟨g, -⟩, -⟩ := h1
    exact g
  obtain ⟨q1, q2, q3⟩ := hatch_rel hs hg hm.1 hm.2.1 hm.2.2 hp hk hq ez
  have x25 : ∀ c, c < 12 → sh o X2 c = z c := by
    intro c hc
    show X2 (o + c) = z c
    rw [e, put2_a (by omega) (by omega)]
    congr 1
    omega
  refine ⟨q1.ext x25, by rw [x25 0 (by decide)]; exact q2, fun c hc => ?_⟩
  by_cases w : 1 ≤ c ∧ c < 13
  · rw [e, put2_b (by omega) (by omega) (by omega), q3 _ (by omega)]
    have t := sh2_g X o 1 (c - 1)
    have t2 : sh 12 (sh2 o 12 1 X) (c - 1) = sh2 o 12 1 X (12 + (c - 1)) := rfl
    rw [← t2, t]
    congr 1
    omega
  · rw [e, put2_out (by omega) (by omega)]
theorem RB.em {b M M2 : St} {v : Nat → Int32} (h : RB b M v) (e : M2 0 = M 0) : RB b M2 v := by
  unfold RB
  rw [e]
  exact h
theorem tog_l : ∀ (k i : Nat) (X R : St), i + k ≤ 100000 → RB (sh 25 X) (sh 4 R) (R 0) → RB (sh 37 X) (sh 5 R) (R 0) → (0 ≤ (R 4 23).toInt ∧ (R 4 23).toInt ≤ i) → (0 ≤ (R 5 23).toInt ∧ (R 5 23).toInt ≤ i) → ∃ (a : Int32) (X2 R2 : St), xX4_together_l61 k X (nI i) = (a, X2) ∧ xX5_together_l50 k R (nI i) = (a, R2) ∧ (∀ c, c < 25 ∨ 49 ≤ c → X2 c = X c) ∧ (∀ c, c ≠ 4 → c ≠ 5 → R2 c = R c) := by
  intro k
  induction k with
  | zero =>
    intro i X R _ _ _ _ _
    rw [xX4_together_l61, xX5_together_l50]
    exact ⟨0, X, R, rfl, rfl, fun _ _ => rfl, fun _ _ _ => rfl⟩
  | succ k ih =>
    intro i X R hi h1 h2 n1 n2
    rw [xX4_together_l61, xX5_together_l50]
    by_cases c : (3000 : Int32) ≤ nI i
    · rw [if_pos c, if_pos c]
      exact ⟨-9, X, R, rfl, rfl, fun _ _ => rfl, fun _ _ _ => rfl⟩
    · rw [if_neg c, if_neg c]
      obtain ⟨M17, e17⟩ : ∃ M, M = put 25 12 (xX0_tenth (sh 25 X)) X := ⟨_, rfl⟩
      obtain ⟨M20, e20⟩ : ∃ M, M = put 37 12 (xX0_tenth (sh 37 M17)) M17 := ⟨_, rfl⟩
      obtain ⟨N14, f14⟩ : ∃ N, N = put 4 1 (xX5_tenth (R 0) (sh 4 R)) R := ⟨_, rfl⟩
      obtain ⟨N16, f16⟩ : ∃ N, N = put 5 1 (xX5_tenth (N14 0) (sh 5 N14)) N14 := ⟨_, rfl⟩
      simp only [nm_eq]
      rw [nods1, ← e17, nods1, ← e20, ← f14, ← f16, nI_1]
      have s37 : sh 37 M17 = sh 37 X := by
        funext c
        show M17 (37 + c) = X (37 + c)
        rw [e17, put_out (by omega)]
      rw [s37] at e20 ⊢
      have m17 := put25 e17
      have x20 : ∀ c, c < 12 → sh 37 M20 c = xX0_tenth (sh 37 X) c := by
        intro c hc
        show M20 (37 + c) = _
        rw [e20, put_in (by omega) (by omega)]
        congr 1
        omega
      have x20o : ∀ c, c < 37 ∨ 49 ≤ c → M20 c = M17 c := fun c hc => by rw [e20, put_out (by omega)]
      have x25 : ∀ c, c < 12 → sh 25 M20 c = xX0_tenth (sh 25 X) c := fun c hc => (x20o (25 + c) (by omega)).trans (m17.1 c hc)
      have n14 : ∀ c, c ≠ 4 → N14 c = R c := fun c hc => by rw [f14, put_out (by omega)]
      have n16 : ∀ c, c ≠ 5 → N16 c = N14 c := fun c hc => by rw [f16, put_out (by omega)]
      rw [n14 0 (by decide)] at f16
      have a4 : N16 4 = xX5_tenth (R 0) (sh 4 R) 0 := by rw [n16 4 (by decide), f14]; exact put_in (by decide) (by decide)
      have a5 : N16 5 = xX5_tenth (R 0) (sh 5 N14) 0 := by rw [f16]; exact put_in (by decide) (by decide)
      obtain ⟨s1, s2⟩ := step_rel (N := sh 4 N16) h1 x25 a4
      have h2' : RB (sh 37 X) (sh 5 N14) (R 0) := h2.em (n14 5 (by decide))
      obtain ⟨u1, u2⟩ := step_rel (N := sh 5 N16) h2' x20 a5
      have z0 : N16 0 = R 0 := by rw [n16 0 (by decide), n14 0 (by decide)]
      have e1 : sh 25 X 0 11 = R 4 23 := h1.1.nods
      have e2 : xX0_tenth (sh 25 X) 0 11 = N16 4 23 := by rw [← x25 0 (by decide)]; exact s1.1.nods
      have e3 : sh 37 X 0 11 = R 5 23 := h2.1.nods
      have e4 : xX0_tenth (sh 37 X) 0 11 = N16 5 23 := by rw [← x20 0 (by decide)]; exact u1.1.nods
      have o1 : N16 4 23 = R 4 23 ∨ N16 4 23 = R 4 23 + 1 := by
        rcases s2.2.2 with ⟨q, -⟩ | ⟨q, -⟩
        · exact Or.inl q
        · exact Or.inr q
      have o2 : N16 5 23 = R 5 23 ∨ N16 5 23 = R 5 23 + 1 := by
        have t : sh 5 N14 0 23 = R 5 23 := congrFun (n14 5 (by decide)) 23
        rcases u2.2.2 with ⟨q, -⟩ | ⟨q, -⟩
        · exact Or.inl (q.trans t)
        · rw [t] at q
          exact Or.inr q
      obtain ⟨c1, c2⟩ := nods_c n1 (by omega) o1
      obtain ⟨d1, d2⟩ := nods_c n2 (by omega) o2
      rw [e1, e2, e3, e4]
      have xo : ∀ c, c < 25 ∨ 49 ≤ c → M20 c = X c := fun c hc => (x20o c (by omega)).trans (m17.2 c (by omega))
      have ro : ∀ c, c ≠ 4 → c ≠ 5 → N16 c = R c := fun c h4 h5 => (n16 c h5).trans (n14 c h4)
      have go : ∃ (a : Int32) (X2 R2 : St), xX4_together_l61 k M20 (nI (i + 1)) = (a, X2) ∧ xX5_together_l50 k N16 (nI (i + 1)) = (a, R2) ∧ (∀ c, c < 25 ∨ 49 ≤ c → X2 c = X c) ∧ (∀ c, c ≠ 4 → c ≠ 5 → R2 c = R c) := by
        obtain ⟨a, X2, R2, i1, i2, i3, i4⟩ := ih (i + 1) M20 N16 (by omega) (by rw [z0]; exact s1) (by rw [z0]; exact u1) c2 d2
        exact ⟨a, X2, R2, i1, i2, fun c hc => (i3 c hc).trans (xo c hc), fun c h4 h5 => (i4 c h4 h5).trans (ro c h4 h5)⟩
      by_cases w1 : N16 4 23 ≤ R 4 23
      · rw [if_pos (c1.mpr w1), if_pos w1]
        exact go
      · rw [if_neg (fun q => w1 (c1.mp q)), if_neg w1]
        by_cases w2 : N16 5 23 ≤ R 5 23
        · rw [if_pos (d1.mpr w2), if_pos w2]
          exact go
        · rw [if_neg (fun q => w2 (d1.mp q)), if_neg w2]
          exact ⟨nI i, M20, N16, rfl, rfl, xo, ro⟩
theorem C_together {T : Nat} {X R : St} {p0 : Int32} {z y : Int32 × St} (h : REL T X R) (hZ : Zmain X) (ez : z = xX4_together X p0) (ey : y = xX5_together R p0) : OUT T z y := by
  have hm := mh_z hZ
  have hm2 : 0 ≤ (X 41 1).toInt ∧ 0 ≤ (X 43 1).toInt ∧ 0 ≤ (X 45 1).toInt := by
    obtain ⟨-, -, -, -, -, -, -, -, -, -, -, -, -, -, -, -, a, b, c, -⟩ := hZ
    exact ⟨a.1, b.1, c.1⟩
  unfold xX4_together at ez
  unfold xX5_together at ey
  obtain ⟨a, ea, ez⟩ := nm_el ez
  obtain ⟨b, eb, ez⟩ := nm_el ez
  obtain ⟨w, ew, ey⟩ := nm_el ey
  refine guard_rel h (ew.trans (within_g ea eb)) ez ey (fun ha hb ez ey => ?_)
  have l1 := g_lo ea ha
  have l2 := g_lo eb hb
  obtain ⟨z9, e9, ez⟩ := nm_el ez
  obtain ⟨M10, e10, ez⟩ := nm_el ez
  obtain ⟨z11, e11, ez⟩ := nm_el ez
  obtain ⟨M12, e12, ez⟩ := nm_el ez
  obtain ⟨N3, f3, ey⟩ := nm_el ey
  obtain ⟨y4, f4, ey⟩ := nm_el ey
  obtain ⟨N5, f5, ey⟩ := nm_el ey
  obtain ⟨N6, f6, ey⟩ := nm_el ey
  obtain ⟨N7, f7, ey⟩ := nm_el ey
  rw [e9] at e10
  rw [e11] at e12
  rw [f4] at f5
  obtain ⟨r1, r2⟩ := fresh_row h.1.2.1.2.2.f f3
  obtain ⟨c1, c2⟩ := cp_main (by decide) f5
  have n6 : ∀ c, c ≠ 4 → N6 c = N5 c := fun c hc => by rw [f6, sa_ne hc]
  have n7 : ∀ c, c ≠ 5 → N7 c = N6 c := fun c hc => by rw [f7, sa_ne hc]
  have n74 : N7 4 = up (N3 4) 6 1 := by rw [n7 4 (by decide), f6, sa_eq, c2 4 (by decide)]
  have n75 : N7 5 = up (N5 5) 6 p0 := by rw [f7, sa_eq, n6 5 (by decide)]
  have nc : ∀ c, c ≠ 4 → c ≠ 5 → N7 c = R c := fun c h4 h5 => by rw [n7 c h5, n6 c h4, c2 c h5, r2 c h4]
  have r5 : FRS (R 2) (N5 5) := by
    obtain ⟨w1, w2, w3, w4, w5, w6, w7⟩ := r1
    exact ⟨fun j hj => by rw [c1 j (by omega)]; exact w1 j hj, by rw [c1 16 (by decide)]; exact w2, by rw [c1 17 (by decide)]; exact w3, by rw [c1 18 (by decide)]; exact w4, fun j a b => by rw [c1 j (by omega)]; exact w5 j a b, by rw [c1 89 (by decide)]; exact w6, by rw [c1 150 (by decide)]; exact w7⟩
  have q4 : FRS (up (R 2) 6 1) (N7 4) := by rw [n74]; exact r1.up (by decide) (by decide)
  have q5 : FRS (up (R 2) 6 p0) (N7 5) := by rw [n75]; exact r5.up (by decide) (by decide)
  obtain ⟨b1, b2, b3⟩ := fresh_at h (by decide) hm rfl (by decide) q4 e10
  have h10 : REL T M10 R := h.fr (fun c hc => b3 c (by omega)) (fun _ _ => rfl) (fun _ _ => rfl)
  obtain ⟨d1, d2, d3⟩ := fresh_at h10 (by decide) (by rw [b3 _ (by decide), b3 _ (by decide), b3 _ (by decide)]; exact hm2) rfl (by decide) q5 e12
  have sv1 := sv_6 (v := 1) h.1.2.1 (by decide) (by decide)
  have sv2 := sv_6 (v := p0) h.1.2.1 l1 l2
  have z0 : N7 0 = R 0 := nc 0 (by decide) (by decide)
  have x25 : ∀ c, c < 12 → sh 25 M12 c = sh 25 M10 c := fun c hc => d3 (25 + c) (by omega)
  have rb1 : RB (sh 25 M12) (sh 4 N7) (N7 0) := by
    rw [z0]
    exact ⟨b1.ext x25, sv1.ri q4, Or.inl ⟨by rw [x25 0 (by decide)]; exact b2, h.2.2.2.2.2⟩⟩
  have rb2 : RB (sh 37 M12) (sh 5 N7) (N7 0) := by
    rw [z0]
    exact ⟨d1, sv2.ri q5, Or.inl ⟨d2, h.2.2.2.2.2⟩⟩
  have m4 : N7 4 23 = 0 := by
    obtain ⟨-, -, -, -, w5, -⟩ := q4
    exact w5 23 (by decide) (by decide)
  have m5 : N7 5 23 = 0 := by
    obtain ⟨-, -, -, -, w5, -⟩ := q5
    exact w5 23 (by decide) (by decide)
  have mk : mu 0 3000 + 1 = 3001 := by decide +kernel
  obtain ⟨K, hK⟩ : ∃ K, K = 3001 := ⟨_, rfl⟩
  rw [mk, ← hK] at ez ey
  obtain ⟨a, X2, R2, i1, i2, i3, i4⟩ := tog_l K 0 M12 N7 (by omega) rb1 rb2 (by rw [m4]; decide) (by rw [m5]; decide)
  refine LO.out (a := (a, X2)) (b := (a, R2)) ⟨rfl, ?_⟩ (ez.trans i1) (ey.trans i2)
  exact h.fr (fun c hc => by show X2 c = X c; rw [i3 c hc, d3 c (by omega), b3 c (by omega)]) (fun c hc => by show R2 c = R c; rw [i4 c (by omega) (by omega), nc c (by omega) (by omega)]) (fun j _ => by show R2 0 j = R 0 j; rw [i4 0 (by decide) (by decide), z0])
