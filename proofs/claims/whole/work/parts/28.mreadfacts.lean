/-! THE TAPE read: what is read depends on the bytes, how many they are, and the place -/
noncomputable def sg (t : Nat → Int32) (n a : Int32) : Int32 := if a < n then t a.toNatClampNeg else -1
noncomputable def dg (t : Nat → Int32) (n : Int32) : Nat → Int32 → Int32 → Int32 → Int32 × Int32 × Int32
  | 0, v, a, c => (v, a, c)
  | k + 1, v, a, c => if sg t n a < 48 then (v, a, c) else if 57 < sg t n a then (v, a, c) else dg t n k (10 * v + sg t n a - 48) (a + 1) (c + 1)
theorem nm_el {α ρ : Type} {x : α} {f : α → ρ} {c : ρ} (h : c = nm x f) : ∃ a, a = x ∧ c = f a := ⟨x, rfl, h⟩
theorem sign_eq (M : St) : xX5_sign M = sg (M 7) (M 0 10) (M 0 11) := rfl
def FR (M N : St) (P : Nat) : Prop := (∀ c, c ≠ 0 → c ≠ 8 → N c = M c) ∧ (∀ j, j ≠ 11 → N 0 j = M 0 j) ∧ (∀ j, j ≠ P → N 8 j = M 8 j)
theorem mu_s {i n : Int32} (c : ¬ n ≤ i) : mu i n = mu (i + 1) n + 1 := by
  have c2 := i_le.mp c
  have a := Int32.toInt_lt n
  have b := Int32.le_toInt i
  have e : (i + 1).toInt = i.toInt + 1 := by rw [i_add] <;> rw [show (1 : Int32).toInt = 1 from rfl] <;> omega
  unfold mu
  rw [e]
  omega
theorem mu_0 {i n : Int32} (c : n ≤ i) : mu i n = 0 := by
  have c2 := Int32.le_iff_toInt_le.mp c
  unfold mu
  omega
theorem rn_loop (p0 p1 : Int32) : ∀ (f : Nat) (M : St) (v2 : Int32) (z : Int32 × St), mu v2 p1 < f → z = xX5_readsNumber_l9 f M p0 p1 v2 → FR M z.2 p0.toNatClampNeg ∧ z.1 = (if (dg (M 7) (M 0 10) (mu v2 p1) (M 8 p0.toNatClampNeg) (M 0 11) v2).2.2 ≤ 0 then 0 else 1) ∧ z.2 0 11 = (dg (M 7) (M 0 10) (mu v2 p1) (M 8 p0.toNatClampNeg) (M 0 11) v2).2.1 ∧ z.2 8 p0.toNatClampNeg = (dg (M 7) (M 0 10) (mu v2 p1) (M 8 p0.toNatClampNeg) (M 0 11) v2).1 := by
  intro f
  induction f with
  | zero => intro M v2 z h; exact absurd h (Nat.not_lt_zero _)
  | succ f ih =>
    intro M v2 z h hz
    have base : ∀ y : Int32 × St, y = xX5_readsNumber_j71 M v2 → FR M y.2 p0.toNatClampNeg ∧ y.1 = (if v2 ≤ 0 then 0 else 1) ∧ y.2 0 11 = M 0 11 ∧ y.2 8 p0.toNatClampNeg = M 8 p0.toNatClampNeg := by
      intro y hy
      unfold xX5_readsNumber_j71 at hy
      subst hy
      split
      · exact ⟨⟨fun _ _ _ => rfl, fun _ _ => rfl, fun _ _ => rfl⟩, rfl, rfl, rfl⟩
      · exact ⟨⟨fun _ _ _ => rfl, fun _ _ => rfl, fun _ _ => rfl⟩, rfl, rfl, rfl⟩
    rw [xX5_readsNumber_l9] at hz
    by_cases c : p1 ≤ v2
    · rw [if_pos c] at hz
      rw [mu_0 c]
      exact base z hz
    · rw [if_neg c] at hz
      rw [mu_s c]
      rw [sign_eq] at hz
      unfold dg
      by_cases c2 : sg (M 7) (M 0 10) (M 0 11) < 48
      · rw [if_pos c2] at hz
        rw [if_pos c2]
        exact base z hz
      · rw [if_neg c2] at hz
        rw [if_neg c2]
        by_cases c3 : 57 < sg (M 7) (M 0 10) (M 0 11)
        · rw [if_pos c3] at hz
          rw [if_pos c3]
          exact base z hz
        · rw [if_neg c3] at hz
          rw [if_neg c3]
          obtain ⟨M10, e10, hz⟩ := nm_el hz
          obtain ⟨M11, e11, hz⟩ := nm_el hz
          obtain ⟨x12, e12, hz⟩ := nm_el hz
          subst e12
          have hf : mu (v2 + 1) p1 < f := by rw [mu_s c] at h; omega
          have q := ih M11 (v2 + 1) z hf hz
          have a7 : M11 7 = M 7 := by rw [e11, e10]; rfl
          have a10 : M11 0 10 = M 0 10 := by rw [e11, e10]; rfl
          have a11 : M11 0 11 = M 0 11 + 1 := by rw [e11, e10]; rfl
          have a8 : M11 8 = up (M 8) p0.toNatClampNeg (10 * M 8 p0.toNatClampNeg + sg (M 7) (M 0 10) (M 0 11) - 48) := by rw [e11, e10]; rfl
          have a8p : M11 8 p0.toNatClampNeg = 10 * M 8 p0.toNatClampNeg + sg (M 7) (M 0 10) (M 0 11) - 48 := by rw [a8, up_eq]
          rw [a7, a10, a11, a8p] at q
          obtain ⟨⟨f1, f2, f3⟩, q2⟩ := q
          refine ⟨⟨fun c h0 h8 => ?_, fun j hj => ?_, fun j hj => ?_⟩, q2⟩
          · rw [f1 c h0 h8, e11, e10, sa_ne h0, sa_ne h8]
          · rw [f2 j hj, e11, sa_eq, up_ne hj, e10, sa_ne (by decide)]
          · rw [f3 j hj, a8, up_ne hj]
theorem rn_spec {M : St} {p0 p1 : Int32} {z : Int32 × St} (hz : z = xX5_readsNumber M p0 p1) {k P : Nat} (hP : p0.toNatClampNeg = P) (hk : mu 0 p1 = k) : FR M z.2 P ∧ z.1 = (if (dg (M 7) (M 0 10) k 0 (M 0 11) 0).2.2 ≤ 0 then 0 else 1) ∧ z.2 0 11 = (dg (M 7) (M 0 10) k 0 (M 0 11) 0).2.1 ∧ z.2 8 P = (dg (M 7) (M 0 10) k 0 (M 0 11) 0).1 := by
  unfold xX5_readsNumber at hz
  obtain ⟨M1, e1, hz⟩ := nm_el hz
  have q := rn_loop p0 p1 _ M1 0 z (Nat.lt_succ_self _) hz
  rw [hP] at q
  rw [hP] at e1
  rw [hk] at q
  have a7 : M1 7 = M 7 := by rw [e1]; rfl
  have a0 : M1 0 = M 0 := by rw [e1]; rfl
  have a8 : M1 8 = up (M 8) P 0 := by rw [e1]; rfl
  have a8p : M1 8 P = 0 := by rw [a8, up_eq]
  rw [a7, a0, a8p] at q
  obtain ⟨⟨f1, f2, f3⟩, q2⟩ := q
  refine ⟨⟨fun c h0 h8 => ?_, fun j hj => ?_, fun j hj => ?_⟩, q2⟩
  · rw [f1 c h0 h8, e1, sa_ne h8]
  · rw [f2 j hj, a0]
  · rw [f3 j hj, a8, up_ne hj]
theorem tk_spec {M : St} {p0 : Int32} {z : Int32 × St} (hz : z = xX5_takes M p0) : (sg (M 7) (M 0 10) (M 0 11) = p0 ∧ z = (1, sa M 0 (up (M 0) 11 (M 0 11 + 1)))) ∨ (¬ sg (M 7) (M 0 10) (M 0 11) = p0 ∧ z = (0, M)) := by
  unfold xX5_takes at hz
  rw [sign_eq] at hz
  by_cases c : sg (M 7) (M 0 10) (M 0 11) = p0
  · rw [if_pos c] at hz
    exact Or.inl ⟨c, hz⟩
  · rw [if_neg c] at hz
    exact Or.inr ⟨c, hz⟩
noncomputable def rsA (t : Nat → Int32) (n a : Int32) : Int32 × Int32 × Int32 := dg t n 4 0 (a + 1) 0
noncomputable def rsB (t : Nat → Int32) (n a : Int32) : Int32 × Int32 × Int32 := dg t n 3 0 ((rsA t n a).2.1 + 1) 0
def rsok (t : Nat → Int32) (n a : Int32) : Prop := 0 ≤ xX5_thingOf (sg t n a) ∧ (¬ (rsA t n a).2.2 ≤ 0 ∧ sg t n (rsA t n a).2.1 = 58) ∧ ¬ (rsB t n a).2.2 ≤ 0 ∧ sg t n (rsB t n a).2.1 = 59
noncomputable def rsend (t : Nat → Int32) (n a : Int32) : Int32 := if 0 ≤ xX5_thingOf (sg t n a) then (if ¬ (rsA t n a).2.2 ≤ 0 ∧ sg t n (rsA t n a).2.1 = 58 then (if ¬ (rsB t n a).2.2 ≤ 0 ∧ sg t n (rsB t n a).2.1 = 59 then (rsB t n a).2.1 + 1 else (rsB t n a).2.1) else (rsA t n a).2.1) else a
def FR2 (M N : St) : Prop := (∀ c, c ≠ 0 → c ≠ 8 → N c = M c) ∧ (∀ j, j ≠ 11 → N 0 j = M 0 j)
def RSP (M : St) (z : Int32 × St) : Prop := FR2 M z.2 ∧ z.2 0 11 = rsend (M 7) (M 0 10) (M 0 11) ∧ ((z.1 = 0 ∧ ¬ rsok (M 7) (M 0 10) (M 0 11)) ∨ (z.1 = 1 ∧ rsok (M 7) (M 0 10) (M 0 11) ∧ z.2 8 0 = xX5_thingOf (sg (M 7) (M 0 10) (M 0 11)) ∧ z.2 8 1 = (rsA (M 7) (M 0 10) (M 0 11)).1 ∧ z.2 8 2 = (rsB (M 7) (M 0 10) (M 0 11)).1))
theorem rs_spec {M : St} {z : Int32 × St} (hz : z = xX5_readsStatement M) : RSP M z := by
  unfold xX5_readsStatement at hz
  rw [sign_eq] at hz
  unfold RSP
  generalize et : M 7 = t at hz ⊢
  generalize en : M 0 10 = n at hz ⊢
  generalize ea : M 0 11 = a at hz ⊢
  obtain ⟨M1, e1, hz⟩ := nm_el hz
  have h180 : M1 8 0 = xX5_thingOf (sg t n a) := by rw [e1, sa_eq, up_eq]
  have h10 : M1 0 = M 0 := by rw [e1]; rfl
  have f1 : FR2 M M1 := ⟨fun c h0 h8 => by rw [e1, sa_ne h8], fun j _ => by rw [h10]⟩
  rw [h180] at hz
  by_cases c1 : 0 ≤ xX5_thingOf (sg t n a)
  · rw [if_pos c1] at hz
    have re : rsend t n a = if ¬ (rsA t n a).2.2 ≤ 0 ∧ sg t n (rsA t n a).2.1 = 58 then (if ¬ (rsB t n a).2.2 ≤ 0 ∧ sg t n (rsB t n a).2.1 = 59 then (rsB t n a).2.1 + 1 else (rsB t n a).2.1) else (rsA t n a).2.1 := by unfold rsend; rw [if_pos c1]
    obtain ⟨M3, e3, hz⟩ := nm_el hz
    have g0 : M3 0 = up (M 0) 11 (a + 1) := by rw [e3, sa_eq, h10, ea]
    have g7 : M3 7 = t := by rw [e3, e1, ← et]; rfl
    have g8 : M3 8 = M1 8 := by rw [e3]; rfl
    have g10 : M3 0 10 = n := by rw [g0, ← en]; rfl
    have g11 : M3 0 11 = a + 1 := by rw [g0]; rfl
    have f3 : FR2 M M3 := ⟨fun c h0 h8 => by rw [e3, sa_ne h0, f1.1 c h0 h8], fun j hj => by rw [g0, up_ne hj]⟩
    obtain ⟨z4, e4, hz⟩ := nm_el hz
    have s4 := rn_spec e4 (P := 1) (k := 4) tn_1 (by decide)
    rw [g7, g10, g11] at s4
    change FR M3 z4.2 1 ∧ z4.1 = (if (rsA t n a).2.2 ≤ 0 then 0 else 1) ∧ z4.2 0 11 = (rsA t n a).2.1 ∧ z4.2 8 1 = (rsA t n a).1 at s4
    obtain ⟨⟨k1, k2, k3⟩, s41, s42, s43⟩ := s4
    obtain ⟨M5, e5, hz⟩ := nm_el hz
    rw [← e5] at k1 k2 k3 s42 s43
    have f5 : FR2 M M5 := ⟨fun c h0 h8 => by rw [k1 c h0 h8, f3.1 c h0 h8], fun j hj => by rw [k2 j hj, f3.2 j hj]⟩
    have m57 : M5 7 = t := by rw [k1 7 (by decide) (by decide), g7]
    have m510 : M5 0 10 = n := by rw [k2 10 (by decide), g10]
    by_cases c2 : (rsA t n a).2.2 ≤ 0
    · rw [if_pos c2] at s41
      rw [if_pos s41] at hz
      subst hz
      refine ⟨f5, ?_, Or.inl ⟨rfl, fun h => h.2.1.1 c2⟩⟩
      rw [re, if_neg (fun h => h.1 c2)]
      exact s42
    · rw [if_neg c2] at s41
      rw [if_neg (by rw [s41]; decide)] at hz
      obtain ⟨z7, e7, hz⟩ := nm_el hz
      have s7 := tk_spec e7
      rw [m57, m510, s42] at s7
      obtain ⟨M8, e8, hz⟩ := nm_el hz
      rcases s7 with ⟨c3, s7⟩ | ⟨c3, s7⟩
      · rw [s7] at e8 hz
        replace hz := hz.trans (if_neg (fun h => absurd h (show ¬ (1 : Int32) = 0 by decide)))
        change M8 = sa M5 0 (up (M5 0) 11 ((rsA t n a).2.1 + 1)) at e8
        have n0 : M8 0 = up (M5 0) 11 ((rsA t n a).2.1 + 1) := by rw [e8, sa_eq]
        have n7 : M8 7 = t := by rw [e8, ← m57]; rfl
        have n10 : M8 0 10 = n := by rw [n0, ← m510]; rfl
        have n11 : M8 0 11 = (rsA t n a).2.1 + 1 := by rw [n0]; rfl
        have n8 : M8 8 = M5 8 := by rw [e8]; rfl
        have f8 : FR2 M M8 := ⟨fun c h0 h8 => by rw [e8, sa_ne h0, f5.1 c h0 h8], fun j hj => by rw [n0, up_ne hj, f5.2 j hj]⟩
        obtain ⟨z10, e10, hz⟩ := nm_el hz
        have s10 := rn_spec e10 (P := 2) (k := 3) tn_2 (by decide)
        rw [n7, n10, n11] at s10
        change FR M8 z10.2 2 ∧ z10.1 = (if (rsB t n a).2.2 ≤ 0 then 0 else 1) ∧ z10.2 0 11 = (rsB t n a).2.1 ∧ z10.2 8 2 = (rsB t n a).1 at s10
        obtain ⟨⟨j1, j2, j3⟩, s101, s102, s103⟩ := s10
        obtain ⟨M11, e11, hz⟩ := nm_el hz
        rw [← e11] at j1 j2 j3 s102 s103
        have f11 : FR2 M M11 := ⟨fun c h0 h8 => by rw [j1 c h0 h8, f8.1 c h0 h8], fun j hj => by rw [j2 j hj, f8.2 j hj]⟩
        have m117 : M11 7 = t := by rw [j1 7 (by decide) (by decide), n7]
        have m1110 : M11 0 10 = n := by rw [j2 10 (by decide), n10]
        have re2 : rsend t n a = (if ¬ (rsB t n a).2.2 ≤ 0 ∧ sg t n (rsB t n a).2.1 = 59 then (rsB t n a).2.1 + 1 else (rsB t n a).2.1) := by rw [re, if_pos ⟨c2, c3⟩]
        by_cases c4 : (rsB t n a).2.2 ≤ 0
        · rw [if_pos c4] at s101
          rw [if_pos s101] at hz
          subst hz
          refine ⟨f11, ?_, Or.inl ⟨rfl, fun h => h.2.2.1 c4⟩⟩
          rw [re2, if_neg (fun h => h.1 c4)]
          exact s102
        · rw [if_neg c4] at s101
          rw [if_neg (by rw [s101]; decide)] at hz
          obtain ⟨z13, e13, hz⟩ := nm_el hz
          have s13 := tk_spec e13
          rw [m117, m1110, s102] at s13
          obtain ⟨M14, e14, hz⟩ := nm_el hz
          rcases s13 with ⟨c5, s13⟩ | ⟨c5, s13⟩
          · rw [s13] at e14 hz
            replace hz := hz.trans (if_neg (fun h => absurd h (show ¬ (1 : Int32) = 0 by decide)))
            change M14 = sa M11 0 (up (M11 0) 11 ((rsB t n a).2.1 + 1)) at e14
            have o0 : M14 0 = up (M11 0) 11 ((rsB t n a).2.1 + 1) := by rw [e14, sa_eq]
            have o8 : M14 8 = M11 8 := by rw [e14]; rfl
            subst hz
            refine ⟨⟨fun c h0 h8 => ?_, fun j hj => ?_⟩, ?_, Or.inr ⟨rfl, ⟨c1, ⟨c2, c3⟩, c4, c5⟩, ?_, ?_, ?_⟩⟩
            · show M14 c = M c
              rw [e14, sa_ne h0, f11.1 c h0 h8]
            · show M14 0 j = M 0 j
              rw [o0, up_ne hj, f11.2 j hj]
            · show M14 0 11 = _
              rw [o0, up_eq, re2, if_pos ⟨c4, c5⟩]
            · show M14 8 0 = _
              rw [o8, j3 0 (by decide), n8, k3 0 (by decide), g8, h180]
            · show M14 8 1 = _
              rw [o8, j3 1 (by decide), n8, s43]
            · show M14 8 2 = _
              rw [o8, s103]
          · rw [s13] at e14 hz
            rw [if_pos rfl] at hz
            change M14 = M11 at e14
            subst hz
            rw [e14]
            refine ⟨f11, ?_, Or.inl ⟨rfl, fun h => c5 h.2.2.2⟩⟩
            rw [re2, if_neg (fun h => c5 h.2)]
            exact s102
      · rw [s7] at e8 hz
        rw [if_pos rfl] at hz
        change M8 = M5 at e8
        subst hz
        rw [e8]
        refine ⟨f5, ?_, Or.inl ⟨rfl, fun h => c3 h.2.1.2⟩⟩
        rw [re, if_neg (fun h => c3 h.2)]
        exact s42
  · rw [if_neg c1] at hz
    subst hz
    refine ⟨f1, ?_, Or.inl ⟨rfl, fun h => c1 h.1⟩⟩
    show M1 0 11 = _
    rw [h10, ea]
    unfold rsend
    rw [if_neg c1]
/-! a place goes on; a chain of STATEMENTS -/
theorem sg_lt2 {t : Nat → Int32} {n a : Int32} (h : ¬ sg t n a = -1) : a < n := by
  unfold sg at h
  by_cases c : a < n
  · exact c
  · rw [if_neg c] at h
    exact absurd rfl h
theorem pl_1 {n a : Int32} (hn : n.toInt ≤ 64) (c : a < n) : (a + 1).toInt = a.toInt + 1 ∧ a.toInt + 1 ≤ 64 := by
  have c2 := Int32.lt_iff_toInt_lt.mp c
  have b := Int32.le_toInt a
  refine ⟨?_, by omega⟩
  rw [i_add] <;> rw [show (1 : Int32).toInt = 1 from rfl] <;> omega
theorem dg_ge {t : Nat → Int32} {n : Int32} (hn : n.toInt ≤ 64) : ∀ (k : Nat) (v a c : Int32), a.toInt ≤ 64 → a.toInt ≤ (dg t n k v a c).2.1.toInt ∧ (dg t n k v a c).2.1.toInt ≤ 64 := by
  intro k
  induction k with
  | zero => intro v a c h; exact ⟨Int.le_refl _, h⟩
  | succ k ih =>
    intro v a c h
    unfold dg
    by_cases c1 : sg t n a < 48
    · rw [if_pos c1]
      exact ⟨Int.le_refl _, h⟩
    · rw [if_neg c1]
      by_cases c2 : 57 < sg t n a
      · rw [if_pos c2]
        exact ⟨Int.le_refl _, h⟩
      · rw [if_neg c2]
        have q := pl_1 hn (sg_lt2 (t := t) (fun q => c1 (by rw [q]; decide)))
        have i := ih (10 * v + sg t n a - 48) (a + 1) (c + 1) (by omega)
        omega
theorem rs_adv {t : Nat → Int32} {n a : Int32} (hn : n.toInt ≤ 64) (h : rsok t n a) : a.toInt < (rsend t n a).toInt ∧ (rsend t n a).toInt ≤ 64 := by
  obtain ⟨h1, h2, h3⟩ := h
  have l0 : a < n := sg_lt2 (t := t) (fun q => by rw [q] at h1; revert h1; decide)
  have p0 := pl_1 hn l0
  have d1 := dg_ge (t := t) hn 4 0 (a + 1) 0 (by omega)
  have l1 : (rsA t n a).2.1 < n := sg_lt2 (t := t) (fun q => by rw [h2.2] at q; exact absurd q (by decide))
  have p1 := pl_1 hn l1
  have d2 := dg_ge (t := t) hn 3 0 ((rsA t n a).2.1 + 1) 0 (by omega)
  have l2 : (rsB t n a).2.1 < n := sg_lt2 (t := t) (fun q => by rw [h3.2] at q; exact absurd q (by decide))
  have p2 := pl_1 hn l2
  have e : rsend t n a = (rsB t n a).2.1 + 1 := by
    unfold rsend
    rw [if_pos h1, if_pos h2, if_pos h3]
  rw [e]
  have d1' : (a + 1).toInt ≤ (rsA t n a).2.1.toInt := d1.1
  have d2' : ((rsA t n a).2.1 + 1).toInt ≤ (rsB t n a).2.1.toInt := d2.1
  omega
def Cn (t : Nat → Int32) (n : Int32) : Nat → Int32 → Int32 → Prop
  | 0, a, e => a = e
  | k + 1, a, e => rsok t n a ∧ Cn t n k (rsend t n a) e
def Ch (t : Nat → Int32) (n a e : Int32) : Prop := ∃ k, Cn t n k a e
theorem Ch.refl {t : Nat → Int32} {n : Int32} (a : Int32) : Ch t n a a := ⟨0, rfl⟩
theorem Cn.snoc {t : Nat → Int32} {n : Int32} : ∀ (k : Nat) (a b : Int32), Cn t n k a b → rsok t n b → Cn t n (k + 1) a (rsend t n b) := by
  intro k
  induction k with
  | zero =>
    intro a b h h2
    have e : a = b := h
    subst e
    exact ⟨h2, rfl⟩
  | succ k ih =>
    intro a b h h2
    exact ⟨h.1, ih _ _ h.2 h2⟩
theorem Ch.snoc {t : Nat → Int32} {n a b : Int32} (h : Ch t n a b) (h2 : rsok t n b) : Ch t n a (rsend t n b) := by
  obtain ⟨k, h⟩ := h
  exact ⟨k + 1, Cn.snoc k a b h h2⟩
theorem Ch.front {t : Nat → Int32} {n a e : Int32} (h : Ch t n a e) : a = e ∨ (rsok t n a ∧ Ch t n (rsend t n a) e) := by
  obtain ⟨k, h⟩ := h
  cases k with
  | zero => exact Or.inl h
  | succ k => exact Or.inr ⟨h.1, k, h.2⟩
theorem ch_k {M N : St} {z : Int32 × St} (hc : Ch (M 7) (M 0 10) 0 (M 0 11)) (ez : z = xX5_readsStatement M) (eN : N = z.2) (c : ¬ z.1 = 0) : Ch (N 7) (N 0 10) 0 (N 0 11) := by
  obtain ⟨f, q1, q2⟩ := rs_spec ez
  rw [← eN] at f q1
  rcases q2 with ⟨q3, -⟩ | ⟨-, q4, -⟩
  · exact absurd q3 c
  · rw [f.1 7 (by decide) (by decide), f.2 10 (by decide), q1]
    exact Ch.snoc hc q4
theorem ch_d {M N : St} {z : Int32 × St} {k : Nat} (hz : Zmod M) (ez : z = xX5_readsStatement M) (eN : N = z.2) (c : ¬ z.1 = 0) (c2 : N 0 11 < N 0 10) (hmu : mu (M 0 11) (M 0 10) < k + 1) : mu (N 0 11) (N 0 10) < k := by
  obtain ⟨f, q1, q2⟩ := rs_spec ez
  rw [← eN] at f q1
  have h64 : (M 0 10).toInt ≤ 64 := hz.2.2.1.2
  rcases q2 with ⟨q3, -⟩ | ⟨-, q4, -⟩
  · exact absurd q3 c
  · have a := rs_adv h64 q4
    have c3 := Int32.lt_iff_toInt_lt.mp c2
    rw [f.2 10 (by decide)] at c3
    rw [q1] at c3
    unfold mu at *
    rw [f.2 10 (by decide), q1]
    omega
def Rd (M : St) : Prop := rz (M 6) ∧ ∃ e, ¬ e < M 0 10 ∧ Ch (M 7) (M 0 10) (M 0 11) e
def Rs (M0 M : St) : Prop := M 0 = M0 0 ∧ M 7 = M0 7 ∧ rz (M 6) ∧ M 6 150 = M0 6 150
theorem rd_0 {M N K z : St} (hc : Ch (M 7) (M 0 10) 0 (M 0 11)) (c : ¬ M 0 11 < M 0 10) (eN : N = put2 2 1 6 1 z M) (h6 : rz (N 6)) (eK : K = sa N 0 (up (N 0) 11 0)) : Rd K := by
  have k6 : K 6 = N 6 := by rw [eK]; rfl
  have k7 : K 7 = M 7 := by rw [eK, eN]; rfl
  have k10 : K 0 10 = M 0 10 := by rw [eK, eN]; rfl
  have k11 : K 0 11 = 0 := by rw [eK]; rfl
  unfold Rd
  rw [k6, k7, k10, k11]
  exact ⟨h6, _, c, hc⟩
theorem rd_1 {M : St} (hr : Rd M) (c : ¬ M 0 10 ≤ M 0 11) : rsok (M 7) (M 0 10) (M 0 11) ∧ ∃ e, ¬ e < M 0 10 ∧ Ch (M 7) (M 0 10) (rsend (M 7) (M 0 10) (M 0 11)) e := by
  obtain ⟨-, e, he, hc⟩ := hr
  rcases hc.front with h | ⟨h1, h2⟩
  · rw [← h] at he
    have a := i_le.mp c
    have b := i_lt.mp he
    omega
  · exact ⟨h1, e, he, h2⟩
theorem rd_2 {M N : St} {z : Int32 × St} (hr : Rd M) (c : ¬ M 0 10 ≤ M 0 11) (ez : z = xX5_readsStatement M) (eN : N = z.2) : Rd N := by
  obtain ⟨f, q1, -⟩ := rs_spec ez
  rw [← eN] at f q1
  have q := (rd_1 hr c).2
  unfold Rd
  rw [f.1 6 (by decide) (by decide), f.1 7 (by decide) (by decide), f.2 10 (by decide), q1]
  exact ⟨hr.1, q⟩
theorem rd_ix {M0 M : St} {i : Int32} (hs : Rs M0 M) (hi : 0 ≤ i.toInt) (c : ¬ M0 6 150 = 20) (c2 : ¬ 3 ≤ i) : (90 + 3 * M 6 150 + i).toInt = 90 + 3 * (M 6 150).toInt + i.toInt ∧ (M 6 150).toInt < 20 ∧ 0 ≤ (M 6 150).toInt ∧ i.toInt < 3 := by
  obtain ⟨-, -, ⟨-, ⟨a, b⟩, -⟩, e⟩ := hs
  rw [← e] at c
  have b2 : (M 6 150).toInt ≠ 20 := fun h => c (Int32.toInt_inj.mp h)
  have c3 := i_le.mp c2
  rw [show (3 : Int32).toInt = 3 from rfl] at c3
  have e3 : (3 * M 6 150).toInt = 3 * (M 6 150).toInt := by
    rw [i_mul] <;> rw [show (3 : Int32).toInt = 3 from rfl] <;> omega
  have e4 : (90 + 3 * M 6 150).toInt = 90 + 3 * (M 6 150).toInt := by
    rw [i_add] <;> rw [e3, show (90 : Int32).toInt = 90 from rfl] <;> omega
  refine ⟨?_, by omega, a, c3⟩
  rw [i_add] <;> rw [e4] <;> omega
theorem rd_in {M0 M : St} {i : Int32} (_ : Rd M0) (hs : Rs M0 M) (hi : 0 ≤ i.toInt) (c : ¬ M0 6 150 = 20) (c2 : ¬ 3 ≤ i) : vp_in (90 + 3 * M 6 150 + i) 151 := by
  have q := rd_ix hs hi c c2
  rw [vp_in_iff]
  omega
theorem rd_in3 {i : Int32} (hi : 0 ≤ i.toInt) (c2 : ¬ (3 : Int32) ≤ i) : vp_in i 3 := by
  have c3 := i_le.mp c2
  rw [show (3 : Int32).toInt = 3 from rfl] at c3
  rw [vp_in_iff]
  omega
theorem rs_k {M0 M N : St} {i x : Int32} (_ : Rd M0) (hs : Rs M0 M) (hi : 0 ≤ i.toInt) (c : ¬ M0 6 150 = 20) (c2 : ¬ 3 ≤ i) (e : N = sa M 6 (up (M 6) ((90 + 3 * M 6 150 + i : Int32).toNatClampNeg) x)) : Rs M0 N := by
  have q := rd_ix hs hi c c2
  obtain ⟨s1, s2, s3, s4⟩ := hs
  have n0 : N 0 = M 0 := by rw [e]; rfl
  have n7 : N 7 = M 7 := by rw [e]; rfl
  have n6 : N 6 = up (M 6) ((90 + 3 * M 6 150 + i : Int32).toNatClampNeg) x := by rw [e, sa_eq]
  have j : (90 + 3 * M 6 150 + i : Int32).toNatClampNeg = (90 + 3 * (M 6 150).toInt + i.toInt).toNat := by rw [tnc, q.1]
  rw [j] at n6
  refine ⟨n0.trans s1, n7.trans s2, ?_, ?_⟩
  · rw [n6]
    exact rz_up s3 (by omega) (by omega) (by omega)
  · rw [n6, up_ne (by omega)]
    exact s4
theorem rd_3 {M0 M N : St} (hr : Rd M0) (hs : Rs M0 M) (c : ¬ M0 6 150 = 20) (e : N = sa M 6 (up (M 6) 150 (M 6 150 + 1))) : Rd N := by
  obtain ⟨s1, s2, s3, s4⟩ := hs
  have n0 : N 0 = M 0 := by rw [e]; rfl
  have n7 : N 7 = M 7 := by rw [e]; rfl
  have n6 : N 6 = up (M 6) 150 (M 6 150 + 1) := by rw [e, sa_eq]
  unfold Rd
  rw [n0, n7, n6, s1, s2]
  refine ⟨?_, hr.2⟩
  rw [← s4] at c
  obtain ⟨r1, ⟨a, b⟩, r3⟩ := s3
  have b2 : (M 6 150).toInt ≠ 20 := fun h => c (Int32.toInt_inj.mp h)
  have e1 : (M 6 150 + 1).toInt = (M 6 150).toInt + 1 := by
    rw [i_add] <;> rw [show (1 : Int32).toInt = 1 from rfl] <;> omega
  unfold rz
  rw [up_ne (by decide), up_eq, up_ne (by decide), e1]
  exact ⟨r1, by omega, r3⟩
theorem rd_d {M N K L : St} {z : Int32 × St} {k : Nat} {f : Nat → Int32} (hz : Zmod M) (hr : Rd M) (c : ¬ M 0 10 ≤ M 0 11) (ez : z = xX5_readsStatement M) (eN : N = z.2) (hs : Rs N K) (eL : L = sa K 6 f) (hmu : mu (M 0 11) (M 0 10) < k + 1) : mu (L 0 11) (L 0 10) < k := by
  obtain ⟨fr, q1, -⟩ := rs_spec ez
  rw [← eN] at fr q1
  have h64 : (M 0 10).toInt ≤ 64 := hz.2.2.1.2
  have a := rs_adv h64 (rd_1 hr c).1
  have c3 := i_le.mp c
  have l0 : L 0 = N 0 := by rw [eL, ← hs.1]; rfl
  unfold mu at *
  rw [l0, fr.2 10 (by decide), q1]
  omega
