/-! book: the class's reading of THE TAPE, against the reference's words rsok, rsend, rsA, rsB -/
def TS (S : St) (t : Nat → Int32) (n : Int32) : Prop := S 0 1 = n ∧ (0 ≤ n.toInt ∧ n.toInt ≤ 64) ∧ ∀ j : Nat, (j : Int) < n.toInt → S 1 j = t j
theorem cs_eq {S : St} {t : Nat → Int32} {n a : Int32} (h : TS S t n) (h0 : 0 ≤ a.toInt) : (a < n ∧ xX1_at 64 S a = sg t n a) ∨ (¬ a < n ∧ xX1_at 64 S a = 0 ∧ sg t n a = -1) := by
  obtain ⟨h1, h2, h3⟩ := h
  unfold sg
  by_cases c : a < n
  · have c2 := Int32.lt_iff_toInt_lt.mp c
    rw [if_pos c]
    refine Or.inl ⟨c, ?_⟩
    rw [at_in h1 h0 (by rw [i_le]; exact c2), tnc]
    exact h3 _ (by omega)
  · have c2 := i_lt.mp c
    rw [if_neg c]
    refine Or.inr ⟨c, ?_, rfl⟩
    unfold xX1_at
    rw [if_neg (by rw [i_lt, z32]; exact h0), h1, if_pos (by rw [Int32.le_iff_toInt_le]; exact c2)]
theorem rnc_l {t : Nat → Int32} {n p0 : Int32} : ∀ (k r : Nat) (M : St) (v2 v3 V : Int32) (z : Int32 × St), TS (sh 1 M) t n → 0 ≤ (M 0 1).toInt → mu v3 p0 = r → r < k → (r ≤ 4 ∧ (r = 4 → V.toInt ≤ 0) ∧ (r = 3 → V.toInt ≤ 9) ∧ (r = 2 → V.toInt ≤ 99) ∧ (r = 1 → V.toInt ≤ 999) ∧ (r = 0 → V.toInt ≤ 9999)) → 0 ≤ V.toInt → ((v3.toInt = 0 ∧ v2 = -1 ∧ V = 0) ∨ (0 < v3.toInt ∧ v2 = V)) → z = xX3_readNumber_l4 k M p0 v2 v3 → (∀ c, c ≠ 0 → z.2 c = M c) ∧ (∀ j, j ≠ 1 → z.2 0 j = M 0 j) ∧ z.2 0 1 = (dg t n r V (M 0 1) v3).2.1 ∧ 0 ≤ (z.2 0 1).toInt ∧ (((dg t n r V (M 0 1) v3).2.2 ≤ 0 ∧ z.1 = -1) ∨ (¬ (dg t n r V (M 0 1) v3).2.2 ≤ 0 ∧ z.1 = (dg t n r V (M 0 1) v3).1 ∧ 0 ≤ z.1.toInt)) := by
  intro k
  induction k with
  | zero => intro r M v2 v3 V z _ _ _ hk; exact absurd hk (Nat.not_lt_zero _)
  | succ k ih =>
    intro r M v2 v3 V z ht ha hr hk hb hV hl ez
    have fin : ∀ {D : Int32 × Int32 × Int32}, D = (V, M 0 1, v3) → z = (v2, M) → (∀ c, c ≠ 0 → z.2 c = M c) ∧ (∀ j, j ≠ 1 → z.2 0 j = M 0 j) ∧ z.2 0 1 = D.2.1 ∧ 0 ≤ (z.2 0 1).toInt ∧ ((D.2.2 ≤ 0 ∧ z.1 = -1) ∨ (¬ D.2.2 ≤ 0 ∧ z.1 = D.1 ∧ 0 ≤ z.1.toInt)) := by
      intro D hD hz
      rw [hD, hz]
      refine ⟨fun _ _ => rfl, fun _ _ => rfl, rfl, ha, ?_⟩
      rcases hl with ⟨l1, l2, l3⟩ | ⟨l1, l2⟩
      · exact Or.inl ⟨by show v3 ≤ 0; rw [Int32.le_iff_toInt_le, z32]; omega, l2⟩
      · exact Or.inr ⟨by show ¬ v3 ≤ 0; rw [i_le, z32]; exact l1, l2, by show 0 ≤ v2.toInt; rw [l2]; exact hV⟩
    rw [xX3_readNumber_l4] at ez
    by_cases c : p0 ≤ v3
    · rw [if_pos c] at ez
      have r0 : r = 0 := by rw [← hr]; exact mu_0 c
      rw [r0]
      exact fin (by rw [dg]) ez
    · rw [if_neg c] at ez
      obtain ⟨x, ex, ez⟩ := nm_el ez
      have rs := mu_s c
      rw [hr] at rs
      obtain ⟨r', hr'⟩ : ∃ r', mu (v3 + 1) p0 = r' := ⟨_, rfl⟩
      rw [hr'] at rs
      rw [rs, dg]
      have v3b : v3.toInt < 2147483647 := by
        have := i_le.mp c
        have := Int32.toInt_lt p0
        omega
      rcases cs_eq ht ha with ⟨q1, q2⟩ | ⟨q1, q2, q3⟩
      · rw [q2] at ex
        rw [ex] at ez
        by_cases c2 : sg t n (M 0 1) < 48
        · rw [if_pos c2] at ez ⊢
          exact fin rfl ez
        · rw [if_neg c2] at ez ⊢
          have d2 := i_lt.mp c2
          rw [show (48 : Int32).toInt = 48 from rfl] at d2
          by_cases c3 : 57 < sg t n (M 0 1)
          · have d3 := Int32.lt_iff_toInt_lt.mp c3
            rw [if_neg (by rw [i_le]; exact d3)] at ez
            rw [if_pos c3]
            exact fin rfl ez
          · have d3 := i_lt.mp c3
            rw [show (57 : Int32).toInt = 57 from rfl] at d3
            rw [if_pos (by rw [Int32.le_iff_toInt_le]; exact d3)] at ez
            rw [if_neg c3]
            obtain ⟨x9, e9, ez⟩ := nm_el ez
            obtain ⟨M10, e10, ez⟩ := nm_el ez
            obtain ⟨x11, e11, ez⟩ := nm_el ez
            have mx : (if 0 < v2 then v2 else 0) = V := by
              rcases hl with ⟨l1, l2, l3⟩ | ⟨l1, l2⟩
              · rw [l2, l3]; decide
              · rw [l2]
                by_cases w : 0 < V
                · rw [if_pos w]
                · rw [if_neg w]
                  have w2 := i_lt.mp w
                  rw [z32] at w2
                  exact Int32.toInt_inj.mp (by rw [z32]; omega)
            rw [mx] at e9
            have V4 : V.toInt ≤ 999 := by omega
            have m10 : (10 * V).toInt = 10 * V.toInt := by
              rw [i_mul] <;> rw [show (10 : Int32).toInt = 10 from rfl] <;> omega
            have m11 : (10 * V + sg t n (M 0 1)).toInt = 10 * V.toInt + (sg t n (M 0 1)).toInt := by
              rw [i_add] <;> rw [m10] <;> omega
            have m12 : x9.toInt = 10 * V.toInt + (sg t n (M 0 1)).toInt - 48 := by
              rw [e9, i_sub] <;> rw [m11, show (48 : Int32).toInt = 48 from rfl] <;> omega
            have lt := Int32.lt_iff_toInt_lt.mp q1
            have n64 := ht.2.1.2
            have a1 : (M 0 1 + 1).toInt = (M 0 1).toInt + 1 := i_inc (by omega)
            have p1 : M10 0 1 = M 0 1 + 1 := by rw [e10, sa_eq, up_eq]
            have pj : ∀ j, j ≠ 1 → M10 0 j = M 0 j := fun j hj => by rw [e10, sa_eq, up_ne hj]
            have pc : ∀ c, c ≠ 0 → M10 c = M c := fun c hc => by rw [e10, sa_ne hc]
            have ht2 : TS (sh 1 M10) t n := by
              obtain ⟨t1, t2, t3⟩ := ht
              refine ⟨?_, t2, fun j hj => ?_⟩
              · show M10 1 1 = n
                rw [pc 1 (by decide)]; exact t1
              · show M10 2 j = t j
                rw [pc 2 (by decide)]; exact t3 j hj
            have i3 : (v3 + 1).toInt = v3.toInt + 1 := i_inc v3b
            rw [e11] at ez
            have q := ih r' M10 x9 (v3 + 1) x9 z ht2 (by rw [p1, a1]; omega) hr' (by omega) (by omega) (by omega) (Or.inr ⟨by rcases hl with ⟨l1, -, -⟩ | ⟨l1, -⟩ <;> omega, rfl⟩) ez
            rw [p1, e9] at q
            obtain ⟨f1, f2, f3, f4, f5⟩ := q
            exact ⟨fun c hc => (f1 c hc).trans (pc c hc), fun j hj => (f2 j hj).trans (pj j hj), f3, f4, f5⟩
      · rw [q2] at ex
        rw [ex, if_pos (by decide)] at ez
        rw [q3, if_pos (show (-1 : Int32) < 48 by decide)]
        exact fin rfl ez
theorem rnc {t : Nat → Int32} {n p0 : Int32} {M : St} {z : Int32 × St} (r : Nat) (h : TS (sh 1 M) t n) (ha : 0 ≤ (M 0 1).toInt) (hr : mu 0 p0 = r) (h4 : r = 3 ∨ r = 4) (ez : z = xX3_readNumber M p0) : (∀ c, c ≠ 0 → z.2 c = M c) ∧ (∀ j, j ≠ 1 → z.2 0 j = M 0 j) ∧ z.2 0 1 = (dg t n r 0 (M 0 1) 0).2.1 ∧ 0 ≤ (z.2 0 1).toInt ∧ (((dg t n r 0 (M 0 1) 0).2.2 ≤ 0 ∧ z.1 = -1) ∨ (¬ (dg t n r 0 (M 0 1) 0).2.2 ≤ 0 ∧ z.1 = (dg t n r 0 (M 0 1) 0).1 ∧ 0 ≤ z.1.toInt)) := by
  unfold xX3_readNumber at ez
  rw [nm_eq] at ez
  exact rnc_l (mu 0 p0 + 1) r M (-1) 0 0 z h ha hr (by omega) (by rw [z32]; omega) (by rw [z32]; omega) (Or.inl ⟨rfl, rfl, rfl⟩) ez
theorem signc {t : Nat → Int32} {n p : Int32} {M : St} {z : Int32 × St} (h : TS (sh 1 M) t n) (ha : 0 ≤ (M 0 1).toInt) (hp : p ≠ 0 ∧ p ≠ -1) (ez : z = xX3_readSign M p) : (sg t n (M 0 1) = p ∧ z = (1, sa M 0 (up (M 0) 1 (M 0 1 + 1)))) ∨ (¬ sg t n (M 0 1) = p ∧ z = (0, M)) := by
  unfold xX3_readSign at ez
  rcases cs_eq h ha with ⟨q1, q2⟩ | ⟨q1, q2, q3⟩
  · rw [q2] at ez
    by_cases c : sg t n (M 0 1) = p
    · rw [if_pos c] at ez
      exact Or.inl ⟨c, ez⟩
    · rw [if_neg c] at ez
      exact Or.inr ⟨c, ez⟩
  · rw [q2, if_neg (Ne.symm hp.1)] at ez
    exact Or.inr ⟨by rw [q3]; exact Ne.symm hp.2, ez⟩
theorem thing_c {x y : Int32} (h : x = y ∨ (x = 0 ∧ y = -1)) : (0 ≤ xX5_thingOf y ∧ xX3_thingOf x = xX5_thingOf y) ∨ (¬ 0 ≤ xX5_thingOf y ∧ xX3_thingOf x = -1) := by
  rcases h with h | ⟨h1, h2⟩
  · rw [h]
    unfold xX5_thingOf xX3_thingOf
    by_cases a : y = 100
    · rw [if_pos a, if_pos a]; exact Or.inl ⟨by decide, rfl⟩
    · rw [if_neg a, if_neg a]
      by_cases b : y = 108
      · rw [if_pos b, if_pos b]; exact Or.inl ⟨by decide, rfl⟩
      · rw [if_neg b, if_neg b]
        by_cases c : y = 114
        · rw [if_pos c, if_pos c]; exact Or.inl ⟨by decide, rfl⟩
        · rw [if_neg c, if_neg c]
          by_cases d : y = 119
          · rw [if_pos d, if_pos d]; exact Or.inl ⟨by decide, rfl⟩
          · rw [if_neg d, if_neg d]; exact Or.inr ⟨by decide, rfl⟩
  · rw [h1, h2]
    exact Or.inr ⟨by unfold xX5_thingOf; decide, by unfold xX3_thingOf; decide⟩
def RSC (t : Nat → Int32) (n : Int32) (M : St) (z : Int32 × St) : Prop := (∀ c, c ≠ 0 → z.2 c = M c) ∧ z.2 0 2 = M 0 1 ∧ z.2 0 1 = rsend t n (M 0 1) ∧ ((z.1 = 0 ∧ ¬ rsok t n (M 0 1)) ∨ (z.1 = 1 ∧ rsok t n (M 0 1) ∧ z.2 0 3 = xX5_thingOf (sg t n (M 0 1)) ∧ z.2 0 4 = (rsA t n (M 0 1)).1 ∧ z.2 0 5 = (rsB t n (M 0 1)).1))
theorem TS.fr {M M2 : St} {t : Nat → Int32} {n : Int32} (h : TS (sh 1 M) t n) (e : ∀ c, c ≠ 0 → M2 c = M c) : TS (sh 1 M2) t n := by
  obtain ⟨t1, t2, t3⟩ := h
  refine ⟨?_, t2, fun j hj => ?_⟩
  · show M2 1 1 = n
    rw [e 1 (by decide)]; exact t1
  · show M2 2 j = t j
    rw [e 2 (by decide)]; exact t3 j hj
theorem rsc {t : Nat → Int32} {n : Int32} {M : St} {z : Int32 × St} (h : TS (sh 1 M) t n) (ha : 0 ≤ (M 0 1).toInt) (ez : z = xX3_readStatement M) : RSC t n M z := by
  unfold xX3_readStatement at ez
  obtain ⟨a, ea⟩ : ∃ a, a = M 0 1 := ⟨_, rfl⟩
  unfold RSC
  rw [← ea] at ha ⊢
  obtain ⟨M1, e1, ez⟩ := nm_el ez
  obtain ⟨M2, e2, ez⟩ := nm_el ez
  have c1 : ∀ c, c ≠ 0 → M1 c = M c := fun c hc => by rw [e1, sa_ne hc]
  have h1 : TS (sh 1 M1) t n := h.fr c1
  have a1 : M1 0 1 = a := by rw [e1, sa_eq, up_ne (by decide), ea]
  have st1 : M1 0 2 = a := by rw [e1, sa_eq, up_eq, ea]
  rw [a1] at e2
  have hx : xX1_at 64 (sh 1 M1) a = sg t n a ∨ (xX1_at 64 (sh 1 M1) a = 0 ∧ sg t n a = -1) := by
    rcases cs_eq h1 ha with ⟨q1, q2⟩ | ⟨q1, q2, q3⟩
    · exact Or.inl q2
    · exact Or.inr ⟨q2, q3⟩
  have c2 : ∀ c, c ≠ 0 → M2 c = M c := fun c hc => by rw [e2, sa_ne hc, c1 c hc]
  have s23 : M2 0 3 = xX3_thingOf (xX1_at 64 (sh 1 M1) a) := by rw [e2, sa_eq, up_eq]
  have s2j : ∀ j, j ≠ 3 → M2 0 j = M1 0 j := fun j hj => by rw [e2, sa_eq, up_ne hj]
  rw [s23] at ez
  rcases thing_c hx with ⟨k1, k2⟩ | ⟨k1, k2⟩
  · rw [k2, if_pos k1] at ez
    have re : rsend t n a = if ¬ (rsA t n a).2.2 ≤ 0 ∧ sg t n (rsA t n a).2.1 = 58 then (if ¬ (rsB t n a).2.2 ≤ 0 ∧ sg t n (rsB t n a).2.1 = 59 then (rsB t n a).2.1 + 1 else (rsB t n a).2.1) else (rsA t n a).2.1 := by unfold rsend; rw [if_pos k1]
    have an : a < n := by
      rcases cs_eq h1 ha with ⟨q1, -⟩ | ⟨-, -, q3⟩
      · exact q1
      · rw [q3] at k1
        exact absurd k1 (by unfold xX5_thingOf; decide)
    have an2 := Int32.lt_iff_toInt_lt.mp an
    have n64 := h.2.1.2
    obtain ⟨M4, e4, ez⟩ := nm_el ez
    have a4 : M4 0 1 = a + 1 := by rw [e4, sa_eq, up_eq, s2j 1 (by decide), a1]
    have s4j : ∀ j, j ≠ 1 → M4 0 j = M2 0 j := fun j hj => by rw [e4, sa_eq, up_ne hj]
    have c4 : ∀ c, c ≠ 0 → M4 c = M c := fun c hc => by rw [e4, sa_ne hc, c2 c hc]
    have a4i : (a + 1).toInt = a.toInt + 1 := i_inc (by omega)
    obtain ⟨z5, e5, ez⟩ := nm_el ez
    obtain ⟨f1, f2, f3, f4, f5⟩ := rnc (t := t) (n := n) 4 (h.fr c4) (by rw [a4, a4i]; omega) (by decide) (Or.inr rfl) e5
    rw [a4] at f3 f5
    change z5.2 0 1 = (rsA t n a).2.1 at f3
    change ((rsA t n a).2.2 ≤ 0 ∧ z5.1 = -1) ∨ (¬ (rsA t n a).2.2 ≤ 0 ∧ z5.1 = (rsA t n a).1 ∧ 0 ≤ z5.1.toInt) at f5
    obtain ⟨M6, e6, ez⟩ := nm_el ez
    obtain ⟨M7, e7, ez⟩ := nm_el ez
    rw [← e6] at f1 f2 f3 f4
    have c7 : ∀ c, c ≠ 0 → M7 c = M c := fun c hc => by rw [e7, sa_ne hc, f1 c hc, c4 c hc]
    have s74 : M7 0 4 = z5.1 := by rw [e7, sa_eq, up_eq]
    have s7j : ∀ j, j ≠ 4 → M7 0 j = M6 0 j := fun j hj => by rw [e7, sa_eq, up_ne hj]
    have s71 : M7 0 1 = (rsA t n a).2.1 := by rw [s7j 1 (by decide), f3]
    have s72 : M7 0 2 = a := by rw [s7j 2 (by decide), f2 2 (by decide), s4j 2 (by decide), s2j 2 (by decide), st1]
    have s73 : M7 0 3 = xX5_thingOf (sg t n a) := by rw [s7j 3 (by decide), f2 3 (by decide), s4j 3 (by decide), s23, k2]
    rw [s74] at ez
    rcases f5 with ⟨g1, g2⟩ | ⟨g1, g2, g3⟩
    · rw [g2, if_pos (show (-1 : Int32) < 0 by decide)] at ez
      rw [ez]
      refine ⟨c7, s72, ?_, Or.inl ⟨rfl, fun q => q.2.1.1 g1⟩⟩
      rw [re, if_neg (fun q => q.1 g1)]
      exact s71
    · rw [if_neg (by rw [i_lt, z32]; exact g3)] at ez
      obtain ⟨z9, e9, ez⟩ := nm_el ez
      have a7 : 0 ≤ (M7 0 1).toInt := by rw [s71, ← f3]; exact f4
      have s9 := signc (t := t) (n := n) (h.fr c7) a7 ⟨by decide, by decide⟩ e9
      rw [s71] at s9
      obtain ⟨M10, e10, ez⟩ := nm_el ez
      rcases s9 with ⟨u1, u2⟩ | ⟨u1, u2⟩
      · have m10 : M10 = sa M7 0 (up (M7 0) 1 ((rsA t n a).2.1 + 1)) := by rw [e10, u2]
        have z91 : ¬ z9.1 = 0 := by rw [u2]; show ¬ (1 : Int32) = 0; decide
        rw [if_neg z91] at ez
        have c10 : ∀ c, c ≠ 0 → M10 c = M c := fun c hc => by rw [m10, sa_ne hc, c7 c hc]
        have s101 : M10 0 1 = (rsA t n a).2.1 + 1 := by rw [m10, sa_eq, up_eq]
        have s10j : ∀ j, j ≠ 1 → M10 0 j = M7 0 j := fun j hj => by rw [m10, sa_eq, up_ne hj]
        have ln : (rsA t n a).2.1 < n := sg_lt2 (t := t) (fun q => by rw [u1] at q; exact absurd q (by decide))
        have p1 := pl_1 n64 ln
        rw [← s71] at p1
        obtain ⟨z12, e12, ez⟩ := nm_el ez
        obtain ⟨v1, v2, v3, v4, v5⟩ := rnc (t := t) (n := n) 3 (h.fr c10) (by rw [s101, ← s71]; omega) (by decide) (Or.inl rfl) e12
        rw [s101] at v3 v5
        change z12.2 0 1 = (rsB t n a).2.1 at v3
        change ((rsB t n a).2.2 ≤ 0 ∧ z12.1 = -1) ∨ (¬ (rsB t n a).2.2 ≤ 0 ∧ z12.1 = (rsB t n a).1 ∧ 0 ≤ z12.1.toInt) at v5
        obtain ⟨M13, e13, ez⟩ := nm_el ez
        obtain ⟨M14, e14, ez⟩ := nm_el ez
        rw [← e13] at v1 v2 v3 v4
        have c14 : ∀ c, c ≠ 0 → M14 c = M c := fun c hc => by rw [e14, sa_ne hc, v1 c hc, c10 c hc]
        have s145 : M14 0 5 = z12.1 := by rw [e14, sa_eq, up_eq]
        have s14j : ∀ j, j ≠ 5 → M14 0 j = M13 0 j := fun j hj => by rw [e14, sa_eq, up_ne hj]
        have s141 : M14 0 1 = (rsB t n a).2.1 := by rw [s14j 1 (by decide), v3]
        have s142 : M14 0 2 = a := by rw [s14j 2 (by decide), v2 2 (by decide), s10j 2 (by decide), s72]
        have s143 : M14 0 3 = xX5_thingOf (sg t n a) := by rw [s14j 3 (by decide), v2 3 (by decide), s10j 3 (by decide), s73]
        have s144 : M14 0 4 = (rsA t n a).1 := by rw [s14j 4 (by decide), v2 4 (by decide), s10j 4 (by decide), s74, g2]
        have re2 : rsend t n a = (if ¬ (rsB t n a).2.2 ≤ 0 ∧ sg t n (rsB t n a).2.1 = 59 then (rsB t n a).2.1 + 1 else (rsB t n a).2.1) := by rw [re, if_pos ⟨g1, u1⟩]
        rw [s145] at ez
        rcases v5 with ⟨w1, w2⟩ | ⟨w1, w2, w3⟩
        · rw [w2, if_pos (show (-1 : Int32) < 0 by decide)] at ez
          rw [ez]
          refine ⟨c14, s142, ?_, Or.inl ⟨rfl, fun q => q.2.2.1 w1⟩⟩
          rw [re2, if_neg (fun q => q.1 w1)]
          exact s141
        · rw [if_neg (by rw [i_lt, z32]; exact w3)] at ez
          obtain ⟨z16, e16, ez⟩ := nm_el ez
          have a14 : 0 ≤ (M14 0 1).toInt := by rw [s141, ← v3]; exact v4
          have s16 := signc (t := t) (n := n) (h.fr c14) a14 ⟨by decide, by decide⟩ e16
          rw [s141] at s16
          obtain ⟨M17, e17, ez⟩ := nm_el ez
          rcases s16 with ⟨x1, x2⟩ | ⟨x1, x2⟩
          · have m17 : M17 = sa M14 0 (up (M14 0) 1 ((rsB t n a).2.1 + 1)) := by rw [e17, x2]
            have z161 : ¬ z16.1 = 0 := by rw [x2]; show ¬ (1 : Int32) = 0; decide
            rw [if_neg z161] at ez
            have s17j : ∀ j, j ≠ 1 → M17 0 j = M14 0 j := fun j hj => by rw [m17, sa_eq, up_ne hj]
            rw [ez]
            refine ⟨fun c hc => ?_, ?_, ?_, Or.inr ⟨rfl, ⟨k1, ⟨g1, u1⟩, w1, x1⟩, ?_, ?_, ?_⟩⟩
            · show M17 c = M c
              rw [m17, sa_ne hc, c14 c hc]
            · show M17 0 2 = a
              rw [s17j 2 (by decide), s142]
            · show M17 0 1 = _
              rw [re2, if_pos ⟨w1, x1⟩, m17, sa_eq, up_eq]
            · show M17 0 3 = _
              rw [s17j 3 (by decide), s143]
            · show M17 0 4 = _
              rw [s17j 4 (by decide), s144]
            · show M17 0 5 = _
              rw [s17j 5 (by decide), s145, w2]
          · have m17 : M17 = M14 := by rw [e17, x2]
            have z161 : z16.1 = 0 := by rw [x2]
            rw [if_pos z161, m17] at ez
            rw [ez]
            refine ⟨c14, s142, ?_, Or.inl ⟨rfl, fun q => x1 q.2.2.2⟩⟩
            rw [re2, if_neg (fun q => x1 q.2)]
            exact s141
      · have m10 : M10 = M7 := by rw [e10, u2]
        have z91 : z9.1 = 0 := by rw [u2]
        rw [if_pos z91, m10] at ez
        rw [ez]
        refine ⟨c7, s72, ?_, Or.inl ⟨rfl, fun q => u1 q.2.1.2⟩⟩
        rw [re, if_neg (fun q => u1 q.2)]
        exact s71
  · rw [k2, if_neg (by decide)] at ez
    rw [ez]
    refine ⟨c2, by show M2 0 2 = a; rw [s2j 2 (by decide), st1], ?_, Or.inl ⟨rfl, fun q => k1 q.1⟩⟩
    show M2 0 1 = _
    unfold rsend
    rw [if_neg k1, s2j 1 (by decide), a1]
