/-! what the true bird would do: often, drinks, drafts -/
theorem beg_rel {T : Nat} {X R X2 R2 : St} (h : REL T X R) (e2 : X2 = put2 25 12 1 12 (xX0_become (sh2 25 12 1 X)) X) (eR : R2 = xX5_begins R) : RB (sh 25 X2) (sh 4 R2) (R 0) ∧ (∀ c, c < 25 ∨ 37 ≤ c → X2 c = X c) ∧ F4 R R2 ∧ (∀ j, j < 151 → R2 4 j = R 2 j) := by
  obtain ⟨b1, b2, b3⟩ := bec_main h.1.1 h.1.2.1.1 (by decide) e2
  rw [begins_eq] at eR
  obtain ⟨c1, c2⟩ := cp_main (by decide) eR
  refine ⟨⟨b1.exr h.1.2.1.1 c1, h.1.2.1.exr c1, Or.inl ⟨?_, h.2.2.2.2.2⟩⟩, b3, c2, c1⟩
  rw [b2]
  exact h.1.2.2.1
theorem C_often {T : Nat} {X R : St} {p0 : Int32} {z y : Int32 × St} (h : REL T X R) (ez : z = xX4_often X p0) (ey : y = xX5_often R p0) : OUT T z y := by
  unfold xX4_often at ez
  unfold xX5_often xX5_wrongRun at ey
  obtain ⟨a, ea, ez⟩ := nm_el ez
  obtain ⟨b, eb, ez⟩ := nm_el ez
  obtain ⟨w, ew, ey⟩ := nm_el ey
  refine guard_rel h (ew.trans (within_g ea eb)) ez ey (fun ha hb ez ey => ?_)
  obtain ⟨n, hn, hn3⟩ := n3 (g_lo ea ha) (g_lo eb hb)
  obtain ⟨z9, e9, ez⟩ := nm_el ez
  obtain ⟨M10, e10, ez⟩ := nm_el ez
  obtain ⟨z11, e11, ez⟩ := nm_el ez
  obtain ⟨M12, e12, ez⟩ := nm_el ez
  obtain ⟨N3, f3, ey⟩ := nm_el ey
  obtain ⟨y4, f4, ey⟩ := nm_el ey
  obtain ⟨N5, f5, ey⟩ := nm_el ey
  rw [e9] at e10
  obtain ⟨g1, g2, g3, g4⟩ := beg_rel h e10 f3
  rw [g3 0 (by decide), goesOn_eq _ _ hn] at f4
  rw [nodsIn_eq _ hn] at e11
  have rr := run_rel g1 n
  have x : ∀ c, c < 25 ∨ 37 ≤ c → M12 c = X c := fun c hc => by rw [e12, put_out (by omega), g2 c hc]
  have r : ∀ c, c ≠ 4 → N5 c = R c := fun c hc => by rw [f5, put_out (by omega), g3 c hc]
  have fin : REL T M12 N5 := h.fr (fun c hc => x c (by omega)) (fun c hc => r c (by omega)) (fun j _ => by rw [r 0 (by decide)])
  rw [ez, ey]
  refine ⟨?_, fin.mono (by omega)⟩
  show z11.1 = y4.1 - N5 2 23
  rw [congrArg Prod.fst e11, congrArg Prod.fst f4, r 2 (by decide)]
  show cIt (sh 25 M10) n 0 11 - sh 25 M10 0 11 = rIt (R 0) (sh 4 N3) n 0 23 - R 2 23
  rw [rr.1.1.nods, g1.1.nods]
  show _ - N3 4 23 = _
  rw [g4 23 (by decide)]
theorem BE.glass {b : St} {r : Nat → Int32} (h : BE 0 b r) : b 0 3 = r 15 := by
  obtain ⟨-, ⟨g, -⟩, -, -⟩ := h
  exact g
theorem C_drinks {T : Nat} {X R : St} {p0 : Int32} {z y : Int32 × St} (h : REL T X R) (ez : z = xX4_drinks X p0) (ey : y = xX5_drinks R p0) : OUT T z y := by
  unfold xX4_drinks at ez
  unfold xX5_drinks xX5_wrongRun at ey
  obtain ⟨a, ea, ez⟩ := nm_el ez
  obtain ⟨b, eb, ez⟩ := nm_el ez
  obtain ⟨w, ew, ey⟩ := nm_el ey
  refine guard_rel h (ew.trans (within_g ea eb)) ez ey (fun ha hb ez ey => ?_)
  obtain ⟨n, hn, hn3⟩ := n3 (g_lo ea ha) (g_lo eb hb)
  obtain ⟨z9, e9, ez⟩ := nm_el ez
  obtain ⟨M10, e10, ez⟩ := nm_el ez
  obtain ⟨z11, e11, ez⟩ := nm_el ez
  obtain ⟨M12, e12, ez⟩ := nm_el ez
  obtain ⟨N3, f3, ey⟩ := nm_el ey
  obtain ⟨y4, f4, ey⟩ := nm_el ey
  obtain ⟨N5, f5, ey⟩ := nm_el ey
  rw [nm_eq] at ey
  rw [e9] at e10
  obtain ⟨g1, g2, g3, g4⟩ := beg_rel h e10 f3
  rw [g3 0 (by decide), goesOn_eq _ _ hn] at f4
  rw [nodsIn_eq _ hn] at e11
  have rr := run_rel g1 n
  have x : ∀ c, c < 25 ∨ 37 ≤ c → M12 c = X c := fun c hc => by rw [e12, put_out (by omega), g2 c hc]
  have r : ∀ c, c ≠ 4 → N5 c = R c := fun c hc => by rw [f5, put_out (by omega), g3 c hc]
  have fin : REL T M12 N5 := h.fr (fun c hc => x c (by omega)) (fun c hc => r c (by omega)) (fun j _ => by rw [r 0 (by decide)])
  have m25 : M12 25 = cIt (sh 25 M10) n 0 := by
    rw [e12]
    refine (put_in (by decide) (by decide)).trans ?_
    exact congrFun (congrArg Prod.snd e11) 0
  have n4 : N5 4 = rIt (R 0) (sh 4 N3) n 0 := by
    rw [f5]
    refine (put_in (by decide) (by decide)).trans ?_
    exact congrFun (congrArg Prod.snd f4) 0
  rw [ez, ey]
  refine ⟨?_, fin.mono (by omega)⟩
  show M12 1 3 - M12 25 3 = N5 2 15 - N5 4 15
  rw [m25, n4, rr.1.1.glass, x 1 (by decide), r 2 (by decide)]
  have g : X 1 3 = R 2 15 := h.1.1.glass
  rw [g]
/-- one TENTH, of states given by their cells -/
theorem step_rel {b M N z : St} {v : Nat → Int32} (h : RB b M v) (ez : ∀ c, c < 12 → z c = xX0_tenth b c) (eN : N 0 = xX5_tenth v M 0) : RB z N v ∧ TF (M 0) (N 0) := by
  obtain ⟨h1, h2, h3⟩ := h
  obtain ⟨t1, t2, t3, t4⟩ := tenth_rel h1 h2 h3 (rfl : xX0_tenth b = xX0_tenth b) (rfl : xX5_tenth v M = xX5_tenth v M)
  rw [← eN] at t1 t2 t4
  exact ⟨⟨t1.ext ez, t2, h3.fr (by rw [ez 0 (by decide)]; exact t3)⟩, t4⟩
theorem nods1 (b : St) : xX0_nodsIn b 1 = (xX0_tenth b 0 11 - b 0 11, xX0_tenth b) := by
  rw [nodsIn_eq b (n := 1) rfl, cIt_s, cIt_0]
theorem BE.draft {δ : Int32} {b b2 : St} {r : Nat → Int32} (h : BE δ b r) (e0 : ∀ j, j ≠ 16 → b2 0 j = b 0 j) (ec : ∀ c, c ≠ 0 → b2 c = b c) : BE δ b2 r := by
  refine h.fr ec (fun _ _ => rfl) ?_
  obtain ⟨-, hin, -, -⟩ := h
  unfold IN
  rw [e0 3 (by decide), e0 4 (by decide), e0 5 (by decide), e0 6 (by decide), e0 7 (by decide), e0 8 (by decide), e0 9 (by decide), e0 10 (by decide), e0 11 (by decide), e0 12 (by decide), e0 13 (by decide), e0 14 (by decide), e0 17 (by decide), e0 15 (by decide)]
  exact hin
theorem draw_ge (x : Int32) : 0 ≤ (((x &&& 2147483647) / 256) - ((x &&& 2147483647) / 256) / 10 * 10) := by
  rw [pk_and x 31 (by decide +kernel)]
  have h : x.toBitVec.toNat % 2 ^ 31 < 2 ^ 31 := Nat.mod_lt _ (by decide)
  generalize x.toBitVec.toNat % 2 ^ 31 = m at h
  have e1 := i_dv (a := nI m) (c := 256) 256 rfl (by decide) (by decide) (by rw [nI_toInt h]; omega)
  rw [nI_toInt h] at e1
  have e2 := i_rm (a := nI m / 256) (c := 10) 10 rfl (by decide) (by decide) (by rw [e1]; omega)
  rw [Int32.le_iff_toInt_le, z32, e2, e1]
  omega
theorem REL.fr7 {T : Nat} {X X2 R R2 : St} (h : REL T X R) (hX : ∀ c, c < 25 ∨ 49 ≤ c → X2 c = X c) (hR : ∀ c, (c = 1 ∨ c = 2 ∨ c = 3 ∨ c = 7 ∨ c = 9) → R2 c = R c) (h0 : ∀ j, (j = 6 ∨ j = 10 ∨ j = 13) → R2 0 j = R 0 j) (h7 : R2 0 7 < 0) : REL T X2 R2 := by
  obtain ⟨h1, h2, ⟨t1, t2⟩, ⟨r1, r2⟩, ⟨f1, f2⟩, h6⟩ := h
  refine ⟨?_, ?_, ⟨?_, fun j hj => ?_⟩, ⟨?_, fun j hj => ?_⟩, ⟨?_, fun j hj => ?_⟩, h7⟩
  · rw [hR 2 (by decide)]
    exact h1.ext (fun c hc => hX (1 + c) (by omega))
  · unfold IMG
    rw [hX 0 (by decide), h0 6 (by decide), hR 3 (by decide)]
    rcases h2 with h2 | ⟨a, b, c⟩
    · exact Or.inl h2
    · exact Or.inr ⟨a, b, c.ext (fun c hc => hX (13 + c) (by omega))⟩
  · rw [hX 50 (by decide), h0 10 (by decide)]; exact t1
  · rw [h0 10 (by decide)] at hj
    rw [hX 51 (by decide), hR 7 (by decide)]; exact t2 j hj
  · rw [hX 52 (by decide), h0 13 (by decide)]; exact r1
  · rw [h0 13 (by decide)] at hj
    rw [hX 53 (by decide), hR 9 (by decide)]; exact r2 j hj
  · rw [hX 54 (by decide)]; exact f1
  · rw [hX 55 (by decide), hR 1 (by decide)]; exact f2 j hj
theorem sh25_sa {X : St} {F : Nat → Int32} (c : Nat) : sh 25 (sa X 25 F) c = sa (sh 25 X) 0 F c := by
  by_cases q : c = 0
  · subst q
    show sa X 25 F 25 = _
    rw [sa_eq, sa_eq]
  · show sa X 25 F (25 + c) = _
    rw [sa_ne (by omega), sa_ne q]
    rfl
theorem put25c {u X X3 : St} (e : X3 = put 25 12 u X) (c : Nat) (hc : c < 12) : sh 25 X3 c = u c := (put25 e).1 c hc
theorem drafts_l {T n : Nat} {X R : St} {p : Int32} (h : REL T X R) (hp : p.toInt = n) : ∀ (k i : Nat) (X2 R2 : St) (s c : Int32), i ≤ n → n - i < k → (∀ c, c < 25 ∨ 37 ≤ c → X2 c = X c) → (∀ c, c ≠ 0 → c ≠ 4 → R2 c = R c) → (∀ j, j ≠ 7 → R2 0 j = R 0 j) → RB (sh 25 X2) (sh 4 R2) (R2 0) → c = R2 4 23 - R 2 23 → LO T (xX4_drafts_l53 k X2 p s c (nI i)) (xX5_drafts_l26 k R2 p s (nI i)) := by
  intro k
  induction k with
  | zero => intro i X2 R2 s c _ hk; exact absurd hk (Nat.not_lt_zero _)
  | succ k ih =>
    intro i X2 R2 s c hi hk hX hR hR0 hb hc
    have n31 := Int32.toInt_lt p
    have ii : (nI i).toInt = i := nI_toInt (by omega)
    rw [xX4_drafts_l53, xX5_drafts_l26]
    by_cases q : n ≤ i
    · rw [if_pos (by rw [Int32.le_iff_toInt_le, ii]; omega), if_pos (by rw [Int32.le_iff_toInt_le, ii]; omega)]
      obtain ⟨N8, e8⟩ : ∃ N, N = sa R2 0 (up (R2 0) 7 (-9)) := ⟨_, rfl⟩
      rw [nm_eq, ← e8]
      have n8 : ∀ c, c ≠ 0 → N8 c = R2 c := fun c hc => by rw [e8, sa_ne hc]
      have n80 : N8 0 = up (R2 0) 7 (-9) := by rw [e8, sa_eq]
      refine ⟨?_, h.fr7 (fun c hc => hX c (by omega)) (fun c hc => (n8 c (by omega)).trans (hR c (by omega) (by omega))) (fun j hj => ?_) ?_⟩
      · show c = N8 4 23 - N8 2 23
        rw [n8 4 (by decide), n8 2 (by decide), hR 2 (by decide) (by decide)]
        exact hc
      · show N8 0 j = R 0 j
        rw [n80, up_ne (by omega), hR0 j (by omega)]
      · show N8 0 7 < 0
        rw [n80, up_eq]
        decide
    · have pc : ¬ p ≤ nI i := by rw [i_le, ii]; omega
      rw [if_neg pc, if_neg pc]
      have t : X2 25 10 = R2 4 22 := hb.1.time
      obtain ⟨w, ew⟩ : ∃ w : St × Int32, w = if (X2 25 10 - X2 25 10 / 10 * 10) = 0 then (nm (((s * 1664525) + 1013904223) : Int32) fun x23 => nm (sa X2 25 (up (X2 25) 16 (((x23 &&& 2147483647) / 256) - ((x23 &&& 2147483647) / 256) / 10 * 10))) fun M24 => (M24, x23)) else ((X2, s)) := ⟨_, rfl⟩
      obtain ⟨u, eu⟩ : ∃ u : St × Int32, u = if ((R2 4 22) - (R2 4 22) / 10 * 10) = 0 then (nm (((s * 1664525) + 1013904223) : Int32) fun x15 => nm (sa R2 0 (up (R2 0) 7 (((x15 &&& 2147483647) / 256) - ((x15 &&& 2147483647) / 256) / 10 * 10))) fun M16 => (M16, x15)) else ((R2, s)) := ⟨_, rfl⟩
      rw [← ew, ← eu]
      rw [t] at ew
      have key : w.2 = u.2 ∧ (∀ c, c < 25 ∨ 37 ≤ c → w.1 c = X c) ∧ (∀ c, c ≠ 0 → u.1 c = R2 c) ∧ (∀ j, j ≠ 7 → u.1 0 j = R2 0 j) ∧ RB (sh 25 w.1) (sh 4 u.1) (u.1 0) := by
        by_cases d : R2 4 22 - R2 4 22 / 10 * 10 = 0
        · rw [if_pos d] at ew eu
          obtain ⟨x, ex, ew⟩ := nm_el ew
          obtain ⟨M24, e24, ew⟩ := nm_el ew
          obtain ⟨x', ex', eu⟩ := nm_el eu
          obtain ⟨M16, e16, eu⟩ := nm_el eu
          have xx : x = x' := by rw [ex, ex']
          rw [← xx] at e16 eu
          have dg0 := draw_ge x
          generalize (((x &&& 2147483647) / 256) - ((x &&& 2147483647) / 256) / 10 * 10) = dd at e24 e16 dg0
          rw [ew, eu]
          have m16 : ∀ c, c ≠ 0 → M16 c = R2 c := fun c hc => by rw [e16, sa_ne hc]
          have m160 : M16 0 = up (R2 0) 7 dd := by rw [e16, sa_eq]
          refine ⟨rfl, fun c hc => ?_, m16, fun j hj => ?_, ?_, ?_, Or.inr ⟨?_, ?_⟩⟩
          · show M24 c = X c
            rw [e24, sa_ne (by omega), hX c hc]
          · show M16 0 j = R2 0 j
            rw [m160, up_ne hj]
          · show BE 0 (sh 25 M24) (M16 4)
            rw [m16 4 (by decide), e24]
            refine hb.1.draft (fun j hj => ?_) (fun c hc => ?_)
            · rw [sh25_sa 0, sa_eq, up_ne hj]
              rfl
            · rw [sh25_sa c, sa_ne hc]
          · show RI (M16 4)
            rw [m16 4 (by decide)]
            exact hb.2.1
          · show M24 25 16 = M16 0 7
            rw [e24, sa_eq, up_eq, m160, up_eq]
          · show 0 ≤ M16 0 7
            rw [m160, up_eq]
            exact dg0
        · rw [if_neg d] at ew eu
          rw [ew, eu]
          exact ⟨rfl, hX, fun _ _ => rfl, fun _ _ => rfl, hb⟩
      obtain ⟨k1, k2, k3, k4, k5⟩ := key
      simp only [nm_eq]
      rw [nods1, nI_1]
      obtain ⟨M19, e19⟩ : ∃ M, M = put 25 12 (xX0_tenth (sh 25 w.1)) w.1 := ⟨_, rfl⟩
      obtain ⟨N12, f12⟩ : ∃ N, N = put 4 1 (xX5_tenth (u.1 0) (sh 4 u.1)) u.1 := ⟨_, rfl⟩
      rw [← e19, ← f12, k1]
      have p2 := put25 e19
      have n0 : N12 0 = u.1 0 := by rw [f12, put_out (by omega)]
      have nc : ∀ c, c ≠ 4 → N12 c = u.1 c := fun c hc => by rw [f12, put_out (by omega)]
      have n4 : N12 4 = xX5_tenth (u.1 0) (sh 4 u.1) 0 := by rw [f12]; exact put_in (by decide) (by decide)
      obtain ⟨s1, s2⟩ := step_rel (N := sh 4 N12) k5 p2.1 n4
      refine ih (i + 1) M19 N12 _ _ (by omega) (by omega) (fun c hc => (p2.2 c hc).trans (k2 c hc)) (fun c h0 h4 => by rw [nc c h4, k3 c h0, hR c h0 h4]) (fun j hj => by rw [n0, k4 j hj, hR0 j hj]) (by rw [n0]; exact s1) ?_
      have a1 : xX0_tenth (sh 25 w.1) 0 11 = N12 4 23 := by
        have := s1.1.nods
        rw [p2.1 0 (by decide)] at this
        exact this
      have a2 : sh 25 w.1 0 11 = R2 4 23 := by
        have := k5.1.nods
        rw [show sh 4 u.1 0 = u.1 4 from rfl, k3 4 (by decide)] at this
        exact this
      show c + (xX0_tenth (sh 25 w.1) 0 11 - sh 25 w.1 0 11) = N12 4 23 - R 2 23
      rw [a1, a2, hc]
      apply Int32.toInt_inj.mp
      rw [Int32.toInt_add, Int32.toInt_sub, Int32.toInt_sub, Int32.toInt_sub]
      rw [Int.bmod_add_bmod, Int.add_bmod_bmod]
      congr 1
      omega
theorem C_drafts {T : Nat} {X R : St} {p0 p1 : Int32} {z y : Int32 × St} (h : REL T X R) (ez : z = xX4_drafts X p0 p1) (ey : y = xX5_drafts R p0 p1) : OUT T z y := by
  unfold xX4_drafts at ez
  unfold xX5_drafts xX5_wrongRun at ey
  obtain ⟨a, ea, ez⟩ := nm_el ez
  obtain ⟨b, eb, ez⟩ := nm_el ez
  obtain ⟨w, ew, ey⟩ := nm_el ey
  refine guard_rel h (ew.trans (within_g ea eb)) ez ey (fun ha hb ez ey => ?_)
  obtain ⟨n, hn, hn3⟩ := n3 (g_lo ea ha) (g_lo eb hb)
  obtain ⟨z9, e9, ez⟩ := nm_el ez
  obtain ⟨M10, e10, ez⟩ := nm_el ez
  obtain ⟨N3, f3, ey⟩ := nm_el ey
  rw [e9] at e10
  obtain ⟨g1, g2, g3, g4⟩ := beg_rel h e10 f3
  refine (drafts_l h hn (mu 0 p0 + 1) 0 M10 N3 p1 0 (Nat.zero_le _) (by unfold mu; rw [z32]; omega) g2 (fun c h0 h4 => g3 c h4) (fun j hj => by rw [g3 0 (by decide)]) (by rw [g3 0 (by decide)]; exact g1) ?_).out ez ey
  rw [g4 23 (by decide), Int32.sub_self]
