/-! loops over fresh birds: lifts, bestRoom, without, widest -/
theorem lifts_l {T n : Nat} {p : Int32} (hn : p.toInt = n) (hn3 : n ≤ 3000) : ∀ (k : Nat) (X R : St) (d : Nat) (b m : Int32), REL T X R → MH X → d ≤ 1000 → LO T (xX4_lifts_l41 k X p b m (nI d)) (xX5_lifts_l24 k R p b m (nI d)) := by
  intro k
  induction k with
  | zero =>
    intro X R d b m h hm hd
    rw [xX4_lifts_l41, xX5_lifts_l24]
    exact ⟨rfl, h⟩
  | succ k ih =>
    intro X R d b m h hm hd
    have di : (nI d).toInt = d := nI_toInt (by omega)
    rw [xX4_lifts_l41, xX5_lifts_l24]
    by_cases c : 10 ≤ d
    · rw [if_pos (show (9 : Int32) < nI d by rw [Int32.lt_iff_toInt_lt, di, show (9 : Int32).toInt = 9 from rfl]; omega), if_pos (show (10 : Int32) ≤ nI d by rw [Int32.le_iff_toInt_le, di, show (10 : Int32).toInt = 10 from rfl]; omega)]
      exact ⟨rfl, h⟩
    · rw [if_neg (show ¬ (9 : Int32) < nI d by rw [i_lt, di, show (9 : Int32).toInt = 9 from rfl]; omega), if_neg (show ¬ (10 : Int32) ≤ nI d by rw [i_le, di, show (10 : Int32).toInt = 10 from rfl]; omega)]
      obtain ⟨X2, e2⟩ : ∃ X2, X2 = xX4_freshWith X 5 (nI d) := ⟨_, rfl⟩
      obtain ⟨z, ez⟩ : ∃ z, z = xX0_nodsIn (sh 25 X2) p := ⟨_, rfl⟩
      obtain ⟨X3, e3⟩ : ∃ X3, X3 = put 25 12 z.2 X2 := ⟨_, rfl⟩
      obtain ⟨y, ey⟩ : ∃ y, y = xX5_freshBy R 5 (nI d) p := ⟨_, rfl⟩
      obtain ⟨s1, s2, s3, s4, s5⟩ := S_in h hm (k := 5) rfl (by decide) (sv_o h.1.2.1 (by decide) (by decide) (by decide) (by decide)) hn hn3 e2 ez e3 ey
      simp only [nm_eq]
      rw [← e2, ← ez, ← e3, ← ey, nI_1, s1, Int32.mul_comm y.1]
      by_cases w : nI d * y.1 ≤ m
      · rw [if_pos w, if_neg (by rw [i_lt]; exact Int32.le_iff_toInt_le.mp w)]
        exact ih X3 y.2 (d + 1) b m s3 s4 (by omega)
      · rw [if_neg w, if_pos (by rw [Int32.lt_iff_toInt_lt]; exact i_le.mp w)]
        exact ih X3 y.2 (d + 1) (nI d) (nI d * y.1) s3 s4 (by omega)
theorem C_lifts {T : Nat} {X R : St} {p0 : Int32} {z y : Int32 × St} (h : REL T X R) (hm : MH X) (ez : z = xX4_lifts X p0) (ey : y = xX5_lifts R p0) : OUT T z y := by
  unfold xX4_lifts at ez
  unfold xX5_lifts xX5_wrongRun at ey
  obtain ⟨a, ea, ez⟩ := nm_el ez
  obtain ⟨b, eb, ez⟩ := nm_el ez
  obtain ⟨w, ew, ey⟩ := nm_el ey
  refine guard_rel h (ew.trans (within_g ea eb)) ez ey (fun ha hb ez ey => ?_)
  obtain ⟨n, hn, hn3⟩ := n3 (g_lo ea ha) (g_lo eb hb)
  rw [nm_eq, show muE 0 9 + 1 = (mu 1 10 + 1) + 1 from by decide +kernel, xX4_lifts_l41, if_neg (show ¬ (9 : Int32) < 0 by decide)] at ez
  obtain ⟨X2, e2, ez⟩ := nm_el ez
  obtain ⟨z1, e1, ez⟩ := nm_el ez
  obtain ⟨X3, e3, ez⟩ := nm_el ez
  obtain ⟨x18, e18, ez⟩ := nm_el ez
  obtain ⟨y0, ey0⟩ : ∃ y, y = xX5_freshBy R 5 0 p0 := ⟨_, rfl⟩
  obtain ⟨s1, s2, s3, s4, s5⟩ := S_in h hm (k := 5) rfl (by decide) (sv_o h.1.2.1 (by decide) (by decide) (by decide) (by decide)) hn hn3 e2 e1 e3 ey0
  have x0 : x18 = 0 := by
    rw [e18]
    apply Int32.toInt_inj.mp
    rw [Int32.toInt_mul, z32, Int.mul_zero]
    rfl
  rw [if_neg (by rw [x0]; decide), nm_eq, x0, show (0 : Int32) + 1 = nI 1 from by decide +kernel] at ez
  obtain ⟨Q, q1, q2, q3, q4, q5, q6⟩ := S_q h hm (k := 5) rfl (by decide) (sv_o h.1.2.1 (by decide) (by decide) (by decide) (by decide)) hn e2 ey0
  have s3' : REL T X3 R := s3.fr (fun _ _ => rfl) (fun c hc => (q6 c (by omega)).symm) (fun j _ => by rw [q6 0 (by decide)])
  exact (lifts_l hn hn3 (mu 1 10 + 1) X3 R 1 0 0 s3' s4 (by decide)).out ez ey
theorem best_l {T n : Nat} {p : Int32} (hn : p.toInt = n) (hn3 : n ≤ 3000) : ∀ (k : Nat) (X R : St) (d : Nat) (b m : Int32), REL T X R → MH X → d ≤ 1000 → 0 ≤ b.toInt → LO T (xX4_bestRoom_l42 k X p b m (nI d)) (xX5_bestRoom_l26 k R p b m (nI d)) := by
  intro k
  induction k with
  | zero =>
    intro X R d b m h hm hd hb
    rw [xX4_bestRoom_l42, xX5_bestRoom_l26]
    exact ⟨rfl, h⟩
  | succ k ih =>
    intro X R d b m h hm hd hb
    have di : (nI d).toInt = d := nI_toInt (by omega)
    have t4 : (400 : Int32).toInt = 400 := rfl
    rw [xX4_bestRoom_l42, xX5_bestRoom_l26]
    by_cases c : 400 < d
    · have c' : (400 : Int32) < nI d := by rw [Int32.lt_iff_toInt_lt, di, t4]; omega
      rw [if_pos c', if_pos c']
      exact ⟨rfl, h⟩
    · have c' : ¬ (400 : Int32) < nI d := by rw [i_lt, di, t4]; omega
      rw [if_neg c', if_neg c']
      obtain ⟨X2, e2⟩ : ∃ X2, X2 = xX4_freshWith X 11 (nI d) := ⟨_, rfl⟩
      obtain ⟨z, ez⟩ : ∃ z, z = xX0_nodsIn (sh 25 X2) p := ⟨_, rfl⟩
      obtain ⟨X3, e3⟩ : ∃ X3, X3 = put 25 12 z.2 X2 := ⟨_, rfl⟩
      obtain ⟨y, ey⟩ : ∃ y, y = xX5_freshBy R 11 (nI d) p := ⟨_, rfl⟩
      obtain ⟨s1, s2, s3, s4, s5⟩ := S_in h hm (k := 11) rfl (by decide) (sv_o h.1.2.1 (by decide) (by decide) (by decide) (by decide)) hn hn3 e2 ez e3 ey
      simp only [nm_eq]
      rw [← e2, ← ez, ← e3, ← ey, show nI d + 50 = nI (d + 50) from nI_add d 50, s1, if_neg (show ¬ b < 0 by rw [i_lt, z32]; exact hb)]
      by_cases w : y.1 ≤ m
      · rw [if_pos w, if_neg (by rw [i_lt]; exact Int32.le_iff_toInt_le.mp w)]
        exact ih X3 y.2 (d + 50) b m s3 s4 (by omega) hb
      · rw [if_neg w, if_pos (by rw [Int32.lt_iff_toInt_lt]; exact i_le.mp w)]
        exact ih X3 y.2 (d + 50) (nI d) y.1 s3 s4 (by omega) (by omega)
theorem C_bestRoom {T : Nat} {X R : St} {p0 : Int32} {z y : Int32 × St} (h : REL T X R) (hm : MH X) (ez : z = xX4_bestRoom X p0) (ey : y = xX5_bestRoom R p0) : OUT T z y := by
  unfold xX4_bestRoom at ez
  unfold xX5_bestRoom xX5_wrongRun at ey
  obtain ⟨a, ea, ez⟩ := nm_el ez
  obtain ⟨b, eb, ez⟩ := nm_el ez
  obtain ⟨w, ew, ey⟩ := nm_el ey
  refine guard_rel h (ew.trans (within_g ea eb)) ez ey (fun ha hb ez ey => ?_)
  obtain ⟨n, hn, hn3⟩ := n3 (g_lo ea ha) (g_lo eb hb)
  have f : muE 100 400 + 1 = 302 := by decide +kernel
  obtain ⟨K, hK⟩ : ∃ K, 302 = K + 1 := ⟨301, rfl⟩
  rw [nm_eq, f, hK, xX4_bestRoom_l42, if_neg (show ¬ (400 : Int32) < 100 by decide)] at ez
  rw [nm_eq, f, hK, xX5_bestRoom_l26, if_neg (show ¬ (400 : Int32) < 100 by decide)] at ey
  obtain ⟨X2, e2, ez⟩ := nm_el ez
  obtain ⟨z1, e1, ez⟩ := nm_el ez
  obtain ⟨X3, e3, ez⟩ := nm_el ez
  obtain ⟨x18, e18, ez⟩ := nm_el ez
  obtain ⟨y1, f1, ey⟩ := nm_el ey
  obtain ⟨N10, f10, ey⟩ := nm_el ey
  obtain ⟨x11, f11, ey⟩ := nm_el ey
  obtain ⟨s1, s2, s3, s4, s5⟩ := S_in h hm (k := 11) rfl (by decide) (sv_o h.1.2.1 (by decide) (by decide) (by decide) (by decide)) hn hn3 e2 e1 e3 f1
  have xx : x18 = x11 := by rw [e18, f11, s1]
  rw [if_neg (by rw [xx, i_le, f11, show (-1 : Int32).toInt = -1 from rfl]; omega), nm_eq, xx, show (100 : Int32) + 50 = nI 150 from by decide +kernel] at ez
  rw [if_pos (show (-9 : Int32) < 0 by decide), nm_eq, show (100 : Int32) + 50 = nI 150 from by decide +kernel, f10] at ey
  exact (best_l hn hn3 K X3 y1.2 150 100 x11 s3 s4 (by decide) (by decide)).out ez ey
theorem FRS.up {r q : Nat → Int32} {k : Nat} {v : Int32} (h : FRS r q) (hk : k < 15) (h11 : k ≠ 11) : FRS (up r k v) (up q k v) := by
  obtain ⟨w1, w2, w3, w4, w5, w6, w7⟩ := h
  refine ⟨fun j hj => ?_, ?_, ?_, ?_, fun j h1 h2 => ?_, ?_, ?_⟩
  · rw [up_get, up_get, w1 j hj]
  · rw [up_ne (by omega), up_ne (by omega)]; exact w2
  · rw [up_ne (by omega), up_ne (by omega)]; exact w3
  · rw [up_ne (by omega)]; exact w4
  · rw [up_ne (by omega)]; exact w5 j h1 h2
  · rw [up_ne (by omega)]; exact w6
  · rw [up_ne (by omega)]; exact w7
theorem STT.fr2 {r : Nat → Int32} (h : STT r) {k1 k2 : Nat} {v1 v2 : Int32} (h1 : k1 ≠ 0 ∧ k1 ≠ 2 ∧ k1 ≠ 7) (h2 : k2 ≠ 0 ∧ k2 ≠ 2 ∧ k2 ≠ 7) : STT (up (up r k1 v1) k2 v2) := by
  unfold STT
  rw [up_ne (Ne.symm h2.2.2), up_ne (Ne.symm h1.2.2), up_ne (Ne.symm h2.1), up_ne (Ne.symm h1.1), up_ne (Ne.symm h2.2.1), up_ne (Ne.symm h1.2.1)]
  exact h
theorem STT.f {r : Nat → Int32} (h : STT r) : 10 ≤ (r 0).toInt ∧ (r 0).toInt ≤ 99 := ⟨h.2.1, h.2.2.1⟩
theorem without_l {T n : Nat} {p : Int32} (hn : p.toInt = n) (hn3 : n ≤ 3000) : ∀ (k : Nat) (X R : St) (d : Nat), REL T X R → MH X → d ≤ 1000 → LO T (xX4_without_l35 k X p (nI d)) (xX5_without_l18 k R p (nI d)) := by
  intro k
  induction k with
  | zero =>
    intro X R d h hm hd
    rw [xX4_without_l35, xX5_without_l18]
    exact ⟨rfl, h⟩
  | succ k ih =>
    intro X R d h hm hd
    have di : (nI d).toInt = d := nI_toInt (by omega)
    rw [xX4_without_l35, xX5_without_l18]
    by_cases c : 10 ≤ d
    · rw [if_pos (show (9 : Int32) < nI d by rw [Int32.lt_iff_toInt_lt, di, show (9 : Int32).toInt = 9 from rfl]; omega), if_pos (show (10 : Int32) ≤ nI d by rw [Int32.le_iff_toInt_le, di, show (10 : Int32).toInt = 10 from rfl]; omega)]
      exact ⟨rfl, h⟩
    · rw [if_neg (show ¬ (9 : Int32) < nI d by rw [i_lt, di, show (9 : Int32).toInt = 9 from rfl]; omega), if_neg (show ¬ (10 : Int32) ≤ nI d by rw [i_le, di, show (10 : Int32).toInt = 10 from rfl]; omega)]
      obtain ⟨X2, e2⟩ : ∃ X2, X2 = xX4_freshWith X 10 (nI d) := ⟨_, rfl⟩
      obtain ⟨X13, e13⟩ : ∃ M, M = sa X2 25 (up (X2 25) 6 0) := ⟨_, rfl⟩
      obtain ⟨X14, e14⟩ : ∃ M, M = sa X13 25 (up (X13 25) 3 0) := ⟨_, rfl⟩
      obtain ⟨z, ez⟩ : ∃ z, z = xX0_nodsWithin (sh 25 X14) p := ⟨_, rfl⟩
      obtain ⟨X3, e3⟩ : ∃ X3, X3 = put 25 12 z.2 X14 := ⟨_, rfl⟩
      obtain ⟨N6, f6⟩ : ∃ N, N = xX5_fresh R := ⟨_, rfl⟩
      obtain ⟨N7, f7⟩ : ∃ N, N = sa N6 4 (up (N6 4) 10 (nI d)) := ⟨_, rfl⟩
      obtain ⟨N8, f8⟩ : ∃ N, N = sa N7 4 (up (N7 4) 18 0) := ⟨_, rfl⟩
      obtain ⟨N9, f9⟩ : ∃ N, N = sa N8 4 (up (N8 4) 15 0) := ⟨_, rfl⟩
      obtain ⟨y, ey⟩ : ∃ y, y = xX5_goesOn (N9 0) (sh 4 N9) p := ⟨_, rfl⟩
      obtain ⟨N11, f11⟩ : ∃ N, N = put 4 1 y.2 N9 := ⟨_, rfl⟩
      simp only [nm_eq]
      rw [← e2, ← e13, ← e14, ← ez, ← e3, ← f6, ← f7, ← f8, ← f9, ← ey, ← f11, nI_1]
      obtain ⟨r1, r2⟩ := fresh_row h.1.2.1.2.2.f f6
      have sv := sv_o (v := nI d) (k := 10) h.1.2.1 (by decide) (by decide) (by decide) (by decide)
      have q7 : FRS (up (R 2) 10 (nI d)) (sh 4 N7 0) := by
        show FRS _ (N7 4)
        rw [f7, sa_eq]
        exact r1.up (by decide) (by decide)
      have md := fresh_md h hm (p := 10) (k := 10) rfl (by decide) q7 (sv.ri q7) e2
      obtain ⟨m1, ⟨m2, m3, m4⟩, m5, m6⟩ := md
      have n8 : N8 4 = up (N7 4) 18 0 := by rw [f8, sa_eq]
      have n9 : N9 4 = up (up (N7 4) 18 0) 15 0 := by rw [f9, sa_eq, n8]
      have b8 : BE 0 (sh 25 X13) (sa (sh 4 N7) 0 (up (sh 4 N7 0) 18 0) 0) := (two6 0 m2).ext (fun c _ => by rw [e13]; exact sh25_sa c)
      have b9 : BE 0 (sh 25 X14) (sa (sa (sh 4 N7) 0 (up (sh 4 N7 0) 18 0)) 0 (up (sa (sh 4 N7) 0 (up (sh 4 N7 0) 18 0) 0) 15 0) 0) := (two3 0 b8).ext (fun c _ => by rw [e14]; exact sh25_sa c)
      rw [sa_eq, sa_eq] at b9
      have b9' : BE 0 (sh 25 X14) (sh 4 N9 0) := by
        show BE 0 (sh 25 X14) (N9 4)
        rw [n9]
        exact b9
      have j9 : ∀ j, j ≠ 15 → j ≠ 18 → sh 4 N9 0 j = sh 4 N7 0 j := fun j h1 h2 => by
        show N9 4 j = N7 4 j
        rw [n9, up_ne h1, up_ne h2]
      have ri9 : RI (sh 4 N9 0) := m3.ex (fun j hj => j9 j (by omega) (by omega))
      have nc : ∀ c, c ≠ 4 → N9 c = R c := fun c hc => by rw [f9, sa_ne hc, f8, sa_ne hc, f7, sa_ne hc, r2 c hc]
      have x14 : ∀ c, c < 25 ∨ 37 ≤ c → X14 c = X c := fun c hc => by rw [e14, sa_ne (by omega), e13, sa_ne (by omega), m1 c hc]
      have md9 : MD X (sh 4 N9) (R 0) X14 := by
        refine ⟨x14, ⟨b9', ri9, m4.fr ?_⟩, ?_, ?_⟩
        · show X14 25 16 = X2 25 16
          rw [e14, sa_eq, up_ne (by decide), e13, sa_eq, up_ne (by decide)]
        · rw [j9 23 (by decide) (by decide)]; exact m5
        · rw [j9 22 (by decide) (by decide)]; exact m6
      obtain ⟨w1, w2⟩ := md_wi md9 hn hn3 ez e3
      rw [nc 0 (by decide), goesOn_eq _ _ hn] at ey
      have y1 : y.1 = rIt (R 0) (sh 4 N9) n 0 23 := congrArg Prod.fst ey
      have fr : F4 R N11 := fun c hc => by rw [f11, put_out (by omega), nc c hc]
      rw [← y1] at w1
      rcases w1 with ⟨a, b⟩ | ⟨a, b⟩
      · rw [if_pos a, if_pos b]
        exact ih X3 N11 (d + 1) (h.fx w2 fr) w2.2 (by omega)
      · rw [if_neg (by rw [a]; decide), if_neg b]
        exact ⟨rfl, h.fx w2 fr⟩
theorem C_without {T : Nat} {X R : St} {p0 : Int32} {z y : Int32 × St} (h : REL T X R) (hm : MH X) (ez : z = xX4_without X p0) (ey : y = xX5_without R p0) : OUT T z y := by
  unfold xX4_without at ez
  unfold xX5_without xX5_wrongRun at ey
  obtain ⟨a, ea, ez⟩ := nm_el ez
  obtain ⟨b, eb, ez⟩ := nm_el ez
  obtain ⟨w, ew, ey⟩ := nm_el ey
  refine guard_rel h (ew.trans (within_g ea eb)) ez ey (fun ha hb ez ey => ?_)
  obtain ⟨n, hn, hn3⟩ := n3 (g_lo ea ha) (g_lo eb hb)
  rw [show muE 0 9 + 1 = mu 0 10 + 1 from by decide +kernel] at ez
  exact (without_l hn hn3 (mu 0 10 + 1) X R 0 h hm (by decide)).out ez ey
/-! a fresh bird with two settings told -/
theorem sw2 {r : Nat → Int32} {k1 k2 j : Nat} {v1 v2 : Int32} (c : j ≠ k2) : up (up r k2 v2) k1 v1 j = up r k1 v1 j := by
  by_cases e : j = k1
  · rw [e, up_eq, up_eq]
  · rw [up_ne e, up_ne c, up_ne e]
theorem md_two {T : Nat} {X R Q X2 X3 : St} {p1 p2 v1 v2 : Int32} {k1 k2 : Nat} (h : REL T X R) (hm : MH X) (hp1 : p1 = nI k1) (hp2 : p2 = nI k2) (h1 : k1 < 15) (h2 : k2 < 15) (h12 : k1 ≠ k2) (h11 : k2 ≠ 11) (hv : SV k1 v1 (R 2)) (hq : FRS (up (up (R 2) k2 v2) k1 v1) (Q 0)) (hr : RI (Q 0)) (e2 : X2 = xX4_freshWith X p1 v1) (e3 : X3 = put 25 12 (xX0_with (sh 25 X2) p2 v2) X2) : MD X Q (R 0) X3 := by
  obtain ⟨w1, w2, w3, w4, w5, w6, w7⟩ := hq
  have q0 : FRS (up (R 2) k1 v1) (up (Q 0) k2 (R 2 k2)) := by
    refine ⟨fun j hj => ?_, ?_, ?_, ?_, fun j a1 a2 => ?_, ?_, ?_⟩
    · by_cases c : j = k2
      · rw [c, up_eq, up_ne (Ne.symm h12)]
      · rw [up_ne c, w1 j hj]
        exact sw2 c
    · rw [up_ne (by omega), w2]
      exact sw2 (Ne.symm h11)
    · rw [up_ne (by omega), w3]
      exact sw2 (Ne.symm h11)
    · rw [up_ne (by omega)]; exact w4
    · rw [up_ne (by omega)]; exact w5 j a1 a2
    · rw [up_ne (by omega)]; exact w6
    · rw [up_ne (by omega)]; exact w7
  have md := fresh_md (Q := fun _ => up (Q 0) k2 (R 2 k2)) h hm hp1 h1 q0 (hv.ri q0) e2
  refine md_with md hp2 h2 ?_ hr e3
  funext j
  show Q 0 j = up (up (Q 0) k2 (R 2 k2)) k2 v2 j
  by_cases c : j = k2
  · rw [c, up_eq, w1 k2 (by omega), up_ne (Ne.symm h12), up_eq]
  · rw [up_ne c, up_ne c]
/-! widest -/
theorem F4.r2 {R R2 : St} (h : F4 R R2) : R2 2 = R 2 := h 2 (by decide)
theorem airs_l {T n : Nat} {p peg : Int32} (hn : p.toInt = n) (hn3 : n ≤ 3000) (x3 v5 v6 v7 : Int32) {R : St} : ∀ (q k1 k2 : Nat) (X R' : St) (e m : Nat), REL T X R → MH X → R' 2 = up (R 2) 1 peg → (∀ c, c ≠ 2 → c ≠ 4 → R' c = R c) → e + q = 10 → m ≤ e → q < k1 → q < k2 → ∃ (X2 R2 : St) (m2 : Nat), xX4_airsFor_l5 k1 X peg p (nI m) (nI (10 * e)) = (nI m2, X2) ∧ xX5_widest_l58 k2 R' p x3 v5 v6 v7 (nI m) (nI (10 * e)) = (R2, nI m2) ∧ m2 ≤ 10 ∧ REL T X2 R ∧ MH X2 ∧ F4 R' R2 := by
  intro q
  induction q with
  | zero =>
    intro k1 k2 X R' e m h hm hr' hc he hme h1 h2
    obtain ⟨k1', rfl⟩ : ∃ k, k1 = k + 1 := ⟨k1 - 1, by omega⟩
    obtain ⟨k2', rfl⟩ : ∃ k, k2 = k + 1 := ⟨k2 - 1, by omega⟩
    rw [xX4_airsFor_l5, xX5_widest_l58, show e = 10 by omega]
    rw [if_pos (show (90 : Int32) < nI (10 * 10) by decide +kernel), if_pos (show (100 : Int32) ≤ nI (10 * 10) by decide +kernel)]
    exact ⟨X, R', m, rfl, rfl, by omega, h, hm, F4.refl _⟩
  | succ q ih =>
    intro k1 k2 X R' e m h hm hr' hc he hme h1 h2
    obtain ⟨k1', rfl⟩ : ∃ k, k1 = k + 1 := ⟨k1 - 1, by omega⟩
    obtain ⟨k2', rfl⟩ : ∃ k, k2 = k + 1 := ⟨k2 - 1, by omega⟩
    have di : (nI (10 * e)).toInt = (10 * e : Nat) := nI_toInt (by omega)
    rw [xX4_airsFor_l5, xX5_widest_l58]
    rw [if_neg (show ¬ (90 : Int32) < nI (10 * e) by rw [i_lt, di, show (90 : Int32).toInt = 90 from rfl]; omega), if_neg (show ¬ (100 : Int32) ≤ nI (10 * e) by rw [i_le, di, show (100 : Int32).toInt = 100 from rfl]; omega)]
    obtain ⟨X2, e2⟩ : ∃ X2, X2 = xX4_freshWith X 8 (nI (10 * e)) := ⟨_, rfl⟩
    obtain ⟨X3, e3⟩ : ∃ X3, X3 = put 25 12 (xX0_with (sh 25 X2) 1 peg) X2 := ⟨_, rfl⟩
    obtain ⟨z, ez⟩ : ∃ z, z = xX0_nodsWithin (sh 25 X3) p := ⟨_, rfl⟩
    obtain ⟨X4, e4⟩ : ∃ X4, X4 = put 25 12 z.2 X3 := ⟨_, rfl⟩
    obtain ⟨y, ey⟩ : ∃ y, y = xX5_freshBy R' 8 (nI (10 * e)) p := ⟨_, rfl⟩
    simp only [nm_eq]
    rw [← e2, ← e3, ← ez, ← e4, ← ey, show nI (10 * e) + 10 = nI (10 * (e + 1)) from nI_add (10 * e) 10]
    have sv := sv_o (v := nI (10 * e)) (k := 8) h.1.2.1 (by decide) (by decide) (by decide) (by decide)
    have st : STT (up (R' 2) 8 (nI (10 * e))) := by
      rw [hr']
      exact h.1.2.1.2.2.fr2 (by decide) (by decide)
    obtain ⟨Q, q1, q2, q3, q4⟩ := freshBy_eq (p0 := 8) (k := 8) rfl (by decide) hn st.f ey
    rw [hr'] at q1 st
    have ri : RI (Q 0) := q1.ri (by rw [up_ne (by decide), up_ne (by decide)]; exact h.1.2.1.1.2.2) st
    rw [hc 0 (by decide) (by decide)] at q2 q3
    have md := md_two h hm (p1 := 8) (p2 := 1) rfl rfl (by decide) (by decide) (by decide) (by decide) sv q1 ri e2 e3
    obtain ⟨w1, w2⟩ := md_wi md hn hn3 ez e4
    rw [← q2] at w1
    have h4 : REL T X4 R := h.fx w2 (F4.refl R)
    rcases w1 with ⟨a, b⟩ | ⟨a, b⟩
    · rw [if_pos a, if_pos b, Int32.add_zero]
      obtain ⟨A, B, m2, i1, i2, i3, i4, i5, i6⟩ := ih k1' k2' X4 y.2 (e + 1) m h4 w2.2 ((q4 2 (by decide)).trans hr') (fun c h1 h2 => (q4 c h2).trans (hc c h1 h2)) (by omega) (by omega) (by omega) (by omega)
      exact ⟨A, B, m2, i1, i2, i3, i4, i5, q4.trans i6⟩
    · rw [if_neg (by rw [a]; decide), if_neg b, nI_1]
      obtain ⟨A, B, m2, i1, i2, i3, i4, i5, i6⟩ := ih k1' k2' X4 y.2 (e + 1) (m + 1) h4 w2.2 ((q4 2 (by decide)).trans hr') (fun c h1 h2 => (q4 c h2).trans (hc c h1 h2)) (by omega) (by omega) (by omega) (by omega)
      exact ⟨A, B, m2, i1, i2, i3, i4, i5, q4.trans i6⟩
theorem widest_l {T n : Nat} {p : Int32} (hn : p.toInt = n) (hn3 : n ≤ 3000) {R : St} : ∀ (q k1 k2 : Nat) (X R' : St) (e : Nat) (b v bb vv : Int32), REL T X R → MH X → (∀ c, c ≠ 2 → c ≠ 4 → R' c = R c) → (∀ j, j ≠ 1 → R' 2 j = R 2 j) → e + q = 10 → 1 ≤ e → q < k1 → q < k2 → ((b = bb ∧ v = vv ∧ 0 ≤ bb.toInt) ∨ (e = 1 ∧ v = -1 ∧ bb = -9)) → LO T (xX4_widest_l42 k1 X p b v (nI (10 * e))) (xX5_widest_l37 k2 R' p (R 2 1) bb vv (nI (10 * e))) := by
  intro q
  induction q with
  | zero =>
    intro k1 k2 X R' e b v bb vv h hm hc hj he h1 hk1 hk2 hs
    obtain ⟨k1', rfl⟩ : ∃ k, k1 = k + 1 := ⟨k1 - 1, by omega⟩
    obtain ⟨k2', rfl⟩ : ∃ k, k2 = k + 1 := ⟨k2 - 1, by omega⟩
    rw [xX4_widest_l42, xX5_widest_l37, show e = 10 by omega]
    rw [if_pos (show (90 : Int32) < nI (10 * 10) by decide +kernel), if_pos (show (100 : Int32) ≤ nI (10 * 10) by decide +kernel)]
    simp only [nm_eq]
    rcases hs with ⟨s1, s2, s3⟩ | ⟨s1, -⟩
    · have r2 : sa R' 2 (up (R' 2) 1 (R 2 1)) 2 = R 2 := by
        rw [sa_eq]
        funext j
        by_cases c : j = 1
        · rw [c, up_eq]
        · rw [up_ne c, hj j c]
      refine ⟨s1, h.fr (fun _ _ => rfl) (fun c hcc => ?_) (fun j _ => ?_)⟩
      · by_cases c2 : c = 2
        · rw [c2]
          exact r2
        · show sa R' 2 (up (R' 2) 1 (R 2 1)) c = R c
          rw [sa_ne c2, hc c c2 (by omega)]
      · show sa R' 2 (up (R' 2) 1 (R 2 1)) 0 j = R 0 j
        rw [sa_ne (by decide), hc 0 (by decide) (by decide)]
    · exact absurd s1 (by omega)
  | succ q ih =>
    intro k1 k2 X R' e b v bb vv h hm hc hj he h1 hk1 hk2 hs
    obtain ⟨k1', rfl⟩ : ∃ k, k1 = k + 1 := ⟨k1 - 1, by omega⟩
    obtain ⟨k2', rfl⟩ : ∃ k, k2 = k + 1 := ⟨k2 - 1, by omega⟩
    have di : (nI (10 * e)).toInt = (10 * e : Nat) := nI_toInt (by omega)
    rw [xX4_widest_l42, xX5_widest_l37]
    rw [if_neg (show ¬ (90 : Int32) < nI (10 * e) by rw [i_lt, di, show (90 : Int32).toInt = 90 from rfl]; omega), if_neg (show ¬ (100 : Int32) ≤ nI (10 * e) by rw [i_le, di, show (100 : Int32).toInt = 100 from rfl]; omega)]
    obtain ⟨N11, f11⟩ : ∃ N, N = sa R' 2 (up (R' 2) 1 (nI (10 * e))) := ⟨_, rfl⟩
    have n2 : N11 2 = up (R 2) 1 (nI (10 * e)) := by
      rw [f11, sa_eq]
      funext j
      by_cases c : j = 1
      · rw [c, up_eq, up_eq]
      · rw [up_ne c, up_ne c, hj j c]
    have nc : ∀ c, c ≠ 2 → c ≠ 4 → N11 c = R c := fun c h1 h2 => by rw [f11, sa_ne h1, hc c h1 h2]
    have fa : muE 0 90 + 1 = 92 := by decide +kernel
    have fb : mu 0 100 + 1 = 101 := by decide +kernel
    obtain ⟨ka, hka⟩ : ∃ k, k = 92 := ⟨_, rfl⟩
    obtain ⟨kb, hkb⟩ : ∃ k, k = 101 := ⟨_, rfl⟩
    obtain ⟨X2, R2, m2, a1, a2, a3, a4, a5, a6⟩ := airs_l hn hn3 (R 2 1) bb vv (nI (10 * e)) 10 ka kb X N11 0 0 h hm n2 nc rfl (Nat.le_refl _) (by omega) (by omega)
    have z0 : nI (10 * 0) = (0 : Int32) := rfl
    rw [z0] at a1 a2
    simp only [nm_eq]
    unfold xX4_airsFor
    rw [← f11, fa, fb, ← hka, ← hkb, a1, a2, show nI (10 * e) + 10 = nI (10 * (e + 1)) from nI_add (10 * e) 10]
    have n2' : ∀ j, j ≠ 1 → R2 2 j = R 2 j := fun j hj => by rw [a6 2 (by decide), n2, up_ne hj]
    have nc' : ∀ c, c ≠ 2 → c ≠ 4 → R2 c = R c := fun c h1 h2 => (a6 c h2).trans (nc c h1 h2)
    have mi : (nI m2).toInt = m2 := nI_toInt (by omega)
    have go : LO T (xX4_widest_l42 k1' X2 p (nI (10 * e)) (nI m2) (nI (10 * (e + 1)))) (xX5_widest_l37 k2' R2 p (R 2 1) (nI (10 * e)) (nI m2) (nI (10 * (e + 1)))) := ih k1' k2' X2 R2 (e + 1) (nI (10 * e)) (nI m2) (nI (10 * e)) (nI m2) a4 a5 nc' n2' (by omega) (by omega) (by omega) (by omega) (Or.inl ⟨rfl, rfl, by rw [di]; omega⟩)
    rcases hs with ⟨s1, s2, s3⟩ | ⟨s1, s2, s3⟩
    · rw [if_neg (show ¬ bb < 0 by rw [i_lt, z32]; exact s3), s1, s2]
      by_cases w : nI m2 ≤ vv
      · rw [if_pos w, if_neg (show ¬ vv < nI m2 by rw [i_lt]; exact Int32.le_iff_toInt_le.mp w)]
        exact ih k1' k2' X2 R2 (e + 1) bb vv bb vv a4 a5 nc' n2' (by omega) (by omega) (by omega) (by omega) (Or.inl ⟨rfl, rfl, s3⟩)
      · rw [if_neg w, if_pos (show vv < nI m2 by rw [Int32.lt_iff_toInt_lt]; exact i_le.mp w)]
        exact go
    · rw [s2, s3, if_pos (show (-9 : Int32) < 0 by decide), if_neg (show ¬ nI m2 ≤ -1 by rw [i_le, mi, show (-1 : Int32).toInt = -1 from rfl]; omega)]
      exact go
theorem C_widest {T : Nat} {X R : St} {p0 : Int32} {z y : Int32 × St} (h : REL T X R) (hm : MH X) (ez : z = xX4_widest X p0) (ey : y = xX5_widest R p0) : OUT T z y := by
  unfold xX4_widest at ez
  unfold xX5_widest at ey
  obtain ⟨a, ea, ez⟩ := nm_el ez
  obtain ⟨b, eb, ez⟩ := nm_el ez
  obtain ⟨w, ew, ey⟩ := nm_el ey
  refine guard_rel h (ew.trans (within_g ea eb)) ez ey (fun ha hb ez ey => ?_)
  obtain ⟨n, hn, hn3⟩ := n1 (g_lo ea ha) (g_lo eb hb)
  simp only [nm_eq] at ez ey
  have fa : muE 10 90 + 1 = 82 := by decide +kernel
  have fb : mu 10 100 + 1 = 91 := by decide +kernel
  obtain ⟨ka, hka⟩ : ∃ k, k = 82 := ⟨_, rfl⟩
  obtain ⟨kb, hkb⟩ : ∃ k, k = 91 := ⟨_, rfl⟩
  rw [fa, ← hka] at ez
  rw [fb, ← hkb] at ey
  exact (widest_l hn hn3 9 ka kb X R 1 0 (-1) (-9) 0 h hm (fun _ _ _ => rfl) (fun _ _ => rfl) rfl (by decide) (by omega) (by omega) (Or.inr ⟨rfl, rfl, rfl⟩)).out ez ey
