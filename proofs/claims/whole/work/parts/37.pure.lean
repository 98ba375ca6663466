/-! THE RELATION of the class's 56 cells and the reference's 10 -/
theorem BE.ext {δ : Int32} {b b2 : St} {r : Nat → Int32} (h : BE δ b r) (e : ∀ c, c < 12 → b2 c = b c) : BE δ b2 r := by
  obtain ⟨⟨s1, s2⟩, hin, ⟨k1, k2, k3, k4⟩, ⟨d1, d2⟩⟩ := h
  refine ⟨⟨?_, fun j hj => ?_⟩, ?_, ⟨?_, ?_, ?_, fun j hj => ?_⟩, ⟨?_, fun j hj => ?_⟩⟩
  · rw [e 1 (by decide)]; exact s1
  · rw [e 2 (by decide)]; exact s2 j hj
  · rw [e 0 (by decide)]; exact hin
  · rw [e 4 (by decide)]; exact k1
  · rw [e 6 (by decide)]; exact k2
  · rw [e 8 (by decide)]; exact k3
  · rw [e 5 (by decide), e 7 (by decide), e 9 (by decide)]; exact k4 j hj
  · rw [e 10 (by decide)]; exact d1
  · rw [e 11 (by decide)]; exact d2 j hj
def DB (T : Nat) (r : Nat → Int32) : Prop := 0 ≤ (r 22).toInt ∧ (r 22).toInt ≤ T ∧ ∀ j : Nat, (j : Int) < (r 89).toInt → 0 ≤ (r (29 + j)).toInt ∧ (r (29 + j)).toInt ≤ T
theorem DB.mono {T T2 : Nat} {r : Nat → Int32} (h : DB T r) (e : T ≤ T2) : DB T2 r := by
  obtain ⟨a, b, c⟩ := h
  exact ⟨a, by omega, fun j hj => by have := c j hj; omega⟩
theorem DB.step {T : Nat} {r q : Nat → Int32} (hz : rz r) (h : DB T r) (hT : T < 2000000000) (t : TF r q) : DB (T + 1) q := by
  obtain ⟨a, b, c⟩ := h
  obtain ⟨t1, t2, t3⟩ := t
  refine ⟨by rw [t2, i_inc (by omega)]; omega, by rw [t2, i_inc (by omega)]; omega, fun j hj => ?_⟩
  have keep : ∀ j : Nat, (j : Int) < (r 89).toInt → q (29 + j) = r (29 + j) → 0 ≤ (q (29 + j)).toInt ∧ (q (29 + j)).toInt ≤ ((T + 1 : Nat) : Int) := by
    intro j h1 h2
    have := c j h1
    rw [h2]
    omega
  rcases t3 with ⟨-, e⟩ | ⟨-, d⟩
  · rw [e 89 (by decide)] at hj
    exact keep j hj (e _ (by omega))
  · have dd := d.dots hz
    rcases d with ⟨-, e, -⟩ | ⟨c6, e, f, -⟩
    · rw [e] at hj
      exact keep j hj (dd.2 j hj)
    · obtain ⟨⟨z1, z2⟩, -, -⟩ := hz
      rw [e, i_inc (by omega)] at hj
      by_cases w : (j : Int) < (r 89).toInt
      · exact keep j w (dd.2 j w)
      · have w2 : (r 89).toInt.toNat = j := by omega
        rw [w2] at f
        rw [f]
        omega
theorem run_db {T : Nat} {b M : St} {v : Nat → Int32} (h : RB b M v) (d : DB T (M 0)) : ∀ n, T + n < 2000000000 → DB (T + n) (rIt v M n 0) := by
  intro n
  induction n with
  | zero => intro _; rw [rIt_0]; exact d
  | succ n ih =>
    intro hn
    exact DB.step (T := T + n) (run_rel h n).1.2.1.1 (ih (by omega)) (by omega) (run_tf h n)
def TP (X R : St) : Prop := X 50 1 = R 0 10 ∧ ∀ j : Nat, (j : Int) < (R 0 10).toInt → X 51 j = R 7 j
def RW (X R : St) : Prop := X 52 1 = R 0 13 ∧ ∀ j : Nat, (j : Int) < (R 0 13).toInt → X 53 j = R 9 j
def RFU (X R : St) : Prop := X 54 1 = 7 ∧ ∀ j : Nat, j < 7 → X 55 j = R 1 j
def GB (T : Nat) (b : St) (r : Nat → Int32) : Prop := BE 0 b r ∧ RI r ∧ b 0 16 = -1 ∧ DB T r
def IMG (T : Nat) (X R : St) : Prop := (X 0 7 = 0 ∧ R 0 6 = 0) ∨ (X 0 7 = 1 ∧ R 0 6 = 1 ∧ GB T (sh 13 X) (R 3))
def REL (T : Nat) (X R : St) : Prop := GB T (sh 1 X) (R 2) ∧ IMG T X R ∧ TP X R ∧ RW X R ∧ RFU X R ∧ R 0 7 < 0
theorem GB.ext {T : Nat} {b b2 : St} {r : Nat → Int32} (h : GB T b r) (e : ∀ c, c < 12 → b2 c = b c) : GB T b2 r := by
  obtain ⟨h1, h2, h3, h4⟩ := h
  exact ⟨h1.ext e, h2, by rw [e 0 (by decide)]; exact h3, h4⟩
theorem GB.mono {T T2 : Nat} {b : St} {r : Nat → Int32} (h : GB T b r) (e : T ≤ T2) : GB T2 b r := ⟨h.1, h.2.1, h.2.2.1, h.2.2.2.mono e⟩
theorem REL.mono {T T2 : Nat} {X R : St} (h : REL T X R) (e : T ≤ T2) : REL T2 X R := by
  obtain ⟨h1, h2, h3⟩ := h
  refine ⟨h1.mono e, ?_, h3⟩
  rcases h2 with h2 | ⟨a, b, c⟩
  · exact Or.inl h2
  · exact Or.inr ⟨a, b, c.mono e⟩
theorem REL.fr {T : Nat} {X X2 R R2 : St} (h : REL T X R) (hX : ∀ c, c < 25 ∨ 49 ≤ c → X2 c = X c) (hR : ∀ c, (c = 1 ∨ c = 2 ∨ c = 3 ∨ c = 7 ∨ c = 9) → R2 c = R c) (h0 : ∀ j, (j = 6 ∨ j = 7 ∨ j = 10 ∨ j = 13) → R2 0 j = R 0 j) : REL T X2 R2 := by
  obtain ⟨h1, h2, ⟨t1, t2⟩, ⟨r1, r2⟩, ⟨f1, f2⟩, h6⟩ := h
  refine ⟨?_, ?_, ⟨?_, fun j hj => ?_⟩, ⟨?_, fun j hj => ?_⟩, ⟨?_, fun j hj => ?_⟩, ?_⟩
  · rw [hR 2 (by decide)]
    exact h1.ext (fun c hc => hX (1 + c) (by omega))
  · unfold IMG
    rw [hX 0 (by decide), h0 6 (by decide), hR 3 (by decide)]
    rcases h2 with h2 | ⟨a, b, c⟩
    · exact Or.inl h2
    · exact Or.inr ⟨a, b, c.ext (fun c hc => hX (13 + c) (by omega))⟩
  · rw [hX 50 (by decide), h0 10 (by decide)]; exact t1
  · rw [h0 10 (by decide)] at hj
    rw [hX 51 (by decide), hR 7 (by decide)]; exact t2 j hj
  · rw [hX 52 (by decide), h0 13 (by decide)]; exact r1
  · rw [h0 13 (by decide)] at hj
    rw [hX 53 (by decide), hR 9 (by decide)]; exact r2 j hj
  · rw [hX 54 (by decide)]; exact f1
  · rw [hX 55 (by decide), hR 1 (by decide)]; exact f2 j hj
  · rw [h0 7 (by decide)]; exact h6
/-! refusals -/
def RFk (w : Int32) (k : Nat) : Prop := -w = nI k ∧ 1 ≤ k ∧ k < 7
theorem rf_k {w : Int32} (h : RF w) : ∃ k, RFk w k := by
  rcases h with rfl | rfl | rfl | rfl | rfl
  · exact ⟨1, by decide +kernel, by decide, by decide⟩
  · exact ⟨2, by decide +kernel, by decide, by decide⟩
  · exact ⟨3, by decide +kernel, by decide, by decide⟩
  · exact ⟨4, by decide +kernel, by decide, by decide⟩
  · exact ⟨6, by decide +kernel, by decide, by decide⟩
theorem refuse_rel {T : Nat} {X R : St} {w : Int32} {z y : Int32 × St} (h : REL T X R) (hw : RF w) (ez : z = xX4_refuse X w) (ey : y = xX5_refuse R w) : z.1 = w ∧ y.1 = w ∧ REL T z.2 y.2 := by
  obtain ⟨k, k1, k2, k3⟩ := rf_k hw
  obtain ⟨h1, h2, ⟨t1, t2⟩, ⟨r1, r2⟩, ⟨f1, f2⟩, h6⟩ := h
  have ki : (nI k).toInt = k := nI_toInt (by omega)
  have kn : (nI k).toNatClampNeg = k := by rw [tnc, ki]; rfl
  unfold xX4_refuse at ez
  unfold xX5_refuse at ey
  rw [k1] at ez ey
  rw [kn] at ey
  obtain ⟨z1, e1, ez⟩ := nm_el ez
  obtain ⟨M2, e2, ez⟩ := nm_el ez
  obtain ⟨N1, g1, ey⟩ := nm_el ey
  have s7 : (7 : Int32).toInt = 7 := rfl
  have s0 : sh 54 X 0 1 = 7 := f1
  have ea : xX1_at 7 (sh 54 X) (nI k) = X 55 k := by
    unfold xX1_at
    rw [if_neg (by rw [i_lt, z32, ki]; omega), s0, if_neg (by rw [i_le, ki, s7]; omega), kn]
    rfl
  unfold xX1_put at e1
  rw [ea, if_neg (by rw [i_lt, z32, ki]; omega), s0, if_neg (by rw [i_le, ki, s7]; omega), nm_eq, kn] at e1
  have x : ∀ c, c ≠ 55 → M2 c = X c := by
    intro c hc
    by_cases q : c = 54
    · subst q
      rw [e2]
      refine (put_in (by decide) (by decide)).trans ?_
      rw [e1]
      exact sa_ne (by decide)
    · rw [e2, put_out (by omega)]
  have x55 : M2 55 = up (X 55) k (X 55 k + 1) := by
    rw [e2]
    refine (put_in (by decide) (by decide)).trans ?_
    rw [e1]
    exact sa_eq _ _ _
  have n : ∀ c, c ≠ 1 → N1 c = R c := fun c hc => by rw [g1, sa_ne hc]
  rw [ez, ey]
  refine ⟨rfl, rfl, ?_, ?_, ⟨?_, fun j hj => ?_⟩, ⟨?_, fun j hj => ?_⟩, ⟨?_, fun j hj => ?_⟩, ?_⟩
  · show GB T (sh 1 M2) (N1 2)
    rw [n 2 (by decide)]
    exact h1.ext (fun c hc => x (1 + c) (by omega))
  · show IMG T M2 N1
    unfold IMG
    rw [x 0 (by decide), n 0 (by decide), n 3 (by decide)]
    rcases h2 with h2 | ⟨a, b, c⟩
    · exact Or.inl h2
    · exact Or.inr ⟨a, b, c.ext (fun c hc => x (13 + c) (by omega))⟩
  · show M2 50 1 = N1 0 10
    rw [x 50 (by decide), n 0 (by decide)]; exact t1
  · show M2 51 j = N1 7 j
    have hj2 : (j : Int) < (N1 0 10).toInt := hj
    rw [n 0 (by decide)] at hj2
    rw [x 51 (by decide), n 7 (by decide)]; exact t2 j hj2
  · show M2 52 1 = N1 0 13
    rw [x 52 (by decide), n 0 (by decide)]; exact r1
  · show M2 53 j = N1 9 j
    have hj2 : (j : Int) < (N1 0 13).toInt := hj
    rw [n 0 (by decide)] at hj2
    rw [x 53 (by decide), n 9 (by decide)]; exact r2 j hj2
  · show M2 54 1 = 7
    rw [x 54 (by decide)]; exact f1
  · show M2 55 j = N1 1 j
    rw [x55, g1, sa_eq, up_get, up_get, f2 j hj, f2 k k3]
  · show N1 0 7 < 0
    rw [n 0 (by decide)]; exact h6
/-- the frame of a call: bounds asked, then the call itself -/
def OUT (T : Nat) (z y : Int32 × St) : Prop := z.1 = y.1 ∧ REL (T + 3000) z.2 y.2
theorem rf6 : RF (-6) := Or.inr (Or.inr (Or.inr (Or.inr rfl)))
theorem rf4 : RF (-4) := Or.inr (Or.inr (Or.inr (Or.inl rfl)))
theorem rf3 : RF (-3) := Or.inr (Or.inr (Or.inl rfl))
theorem rf2 : RF (-2) := Or.inr (Or.inl rfl)
theorem rf1 : RF (-1) := Or.inl rfl
theorem ref_out {T : Nat} {X R : St} {w : Int32} {z y : Int32 × St} (h : REL T X R) (hw : RF w) (ez : z = nm (xX4_refuse X w) fun z2 => nm z2.2 fun M3 => (z2.1, M3)) (ey : y = nm (xX5_refuse R w) fun z5 => nm z5.2 fun M6 => (z5.1, M6)) : OUT T z y := by
  obtain ⟨a, ea, ez⟩ := nm_el ez
  obtain ⟨c, ec, ey⟩ := nm_el ey
  obtain ⟨q1, q2, q3⟩ := refuse_rel h hw ea ec
  rw [nm_eq] at ez ey
  rw [ez, ey]
  exact ⟨by show a.1 = c.1; rw [q1, q2], q3.mono (by omega)⟩
theorem guard_rel {T : Nat} {X R : St} {a b w : Int32} {A : St → Int32 × St} {B z y : Int32 × St} (h : REL T X R) (hw : w = if a = 0 then (if b = 0 then 0 else -6) else -4) (ez : z = nm (xX4_outside X a b) fun z5 => nm z5.2 fun M6 => nm z5.1 fun x7 => if x7 = 0 then A M6 else (x7, M6)) (ey : y = if w = 0 then B else (nm (xX5_refuse R w) fun z5 => nm z5.2 fun M6 => (z5.1, M6))) (k : a = 0 → b = 0 → z = A X → y = B → OUT T z y) : OUT T z y := by
  obtain ⟨z5, e5, ez⟩ := nm_el ez
  obtain ⟨M6, e6, ez⟩ := nm_el ez
  obtain ⟨x7, e7, ez⟩ := nm_el ez
  unfold xX4_outside at e5
  by_cases ca : a = 0
  · rw [if_pos ca] at e5 hw
    by_cases cb : b = 0
    · rw [if_pos cb] at e5 hw
      rw [if_pos hw] at ey
      rw [e5] at e6 e7
      have e6' : M6 = X := e6
      have e7' : x7 = 0 := e7
      rw [if_pos e7', e6'] at ez
      exact k ca cb ez ey
    · rw [if_neg cb] at e5 hw
      have hw0 : ¬ w = 0 := by rw [hw]; decide
      rw [if_neg hw0, hw] at ey
      obtain ⟨u, eu, e5⟩ := nm_el e5
      obtain ⟨c, ec, ey⟩ := nm_el ey
      obtain ⟨q1, q2, q3⟩ := refuse_rel h rf6 eu ec
      rw [nm_eq] at e5 ey
      rw [e5] at e6 e7
      have x0 : ¬ x7 = 0 := by rw [e7]; show ¬ u.1 = 0; rw [q1]; decide
      rw [if_neg x0, e6, e7] at ez
      rw [ez, ey]
      exact ⟨by show u.1 = c.1; rw [q1, q2], q3.mono (by omega)⟩
  · rw [if_neg ca] at e5 hw
    have hw0 : ¬ w = 0 := by rw [hw]; decide
    rw [if_neg hw0, hw] at ey
    obtain ⟨u, eu, e5⟩ := nm_el e5
    obtain ⟨c, ec, ey⟩ := nm_el ey
    obtain ⟨q1, q2, q3⟩ := refuse_rel h rf4 eu ec
    rw [nm_eq] at e5 ey
    rw [e5] at e6 e7
    have x0 : ¬ x7 = 0 := by rw [e7]; show ¬ u.1 = 0; rw [q1]; decide
    rw [if_neg x0, e6, e7] at ez
    rw [ez, ey]
    exact ⟨by show u.1 = c.1; rw [q1, q2], q3.mono (by omega)⟩
theorem within_g {p lo hi a b : Int32} (ea : a = if lo ≤ p then 0 else 1) (eb : b = if p ≤ hi then 0 else 1) : xX5_within p lo hi = if a = 0 then (if b = 0 then 0 else -6) else -4 := by
  unfold xX5_within
  by_cases c : lo ≤ p
  · rw [if_pos c] at ea ⊢
    rw [if_pos ea]
    by_cases d : p ≤ hi
    · rw [if_pos d] at eb ⊢
      rw [if_pos eb]
    · rw [if_neg d] at eb ⊢
      rw [if_neg (by rw [eb]; decide)]
  · rw [if_neg c] at ea ⊢
    rw [if_neg (by rw [ea]; decide)]
theorem g_lo {p lo a : Int32} (ea : a = if lo ≤ p then 0 else 1) (h : a = 0) : lo.toInt ≤ p.toInt := by
  by_cases c : lo ≤ p
  · exact Int32.le_iff_toInt_le.mp c
  · rw [if_neg c] at ea
    rw [ea] at h
    exact absurd h (by decide)
/-! a fresh bird in mind -/
def MH (X : St) : Prop := 0 ≤ (X 29 1).toInt ∧ 0 ≤ (X 31 1).toInt ∧ 0 ≤ (X 33 1).toInt
def FX (X X2 : St) : Prop := (∀ c, c < 25 ∨ 37 ≤ c → X2 c = X c) ∧ MH X2
def F4 (R R2 : St) : Prop := ∀ c, c ≠ 4 → R2 c = R c
theorem FX.trans {X Y Z : St} (h : FX X Y) (h2 : FX Y Z) : FX X Z := ⟨fun c hc => (h2.1 c hc).trans (h.1 c hc), h2.2⟩
theorem F4.trans {X Y Z : St} (h : F4 X Y) (h2 : F4 Y Z) : F4 X Z := fun c hc => (h2 c hc).trans (h c hc)
theorem F4.refl (X : St) : F4 X X := fun _ _ => rfl
theorem REL.fx {T : Nat} {X X2 R R2 : St} (h : REL T X R) (hX : FX X X2) (hR : F4 R R2) : REL T X2 R2 := h.fr (fun c hc => hX.1 c (by omega)) (fun c hc => hR c (by omega)) (fun j _ => by rw [hR 0 (by decide)])
theorem mh_z {X : St} (h : Zmain X) : MH X := by
  obtain ⟨-, -, -, -, -, -, -, -, -, -, -, a, b, c, -⟩ := h
  exact ⟨a.1, b.1, c.1⟩
theorem FRS.ri {r q : Nat → Int32} (h : FRS r q) (h6 : 1 ≤ (r 6).toInt ∧ (r 6).toInt ≤ 4) (hs : STT r) : RI q := by
  obtain ⟨w1, w2, w3, w4, w5, w6, w7⟩ := h
  refine ⟨?_, ?_, hs.fr (fun j hj => w1 j (by omega))⟩
  · unfold rz
    rw [w6, w7, w1 6 (by decide)]
    exact ⟨by decide, by decide, h6⟩
  · unfold KS
    rw [w5 24 (by decide) (by decide)]
    exact ⟨fun h => absurd h (by decide), fun h => absurd h (by decide)⟩
/-- a bird in mind at X2 (else as X), alike with Q -/
def MD (X Q : St) (v : Nat → Int32) (X2 : St) : Prop := (∀ c, c < 25 ∨ 37 ≤ c → X2 c = X c) ∧ RB (sh 25 X2) Q v ∧ Q 0 23 = 0 ∧ Q 0 22 = 0
theorem sh2_12 (X : St) (c : Nat) : sh 12 (sh2 25 12 1 X) c = X (1 + c) := by
  unfold sh sh2
  have e : Nat.blt (12 + c) 12 = false := Bool.eq_false_iff.mpr (fun q => by have : 12 + c + 1 ≤ 12 := Nat.le_of_ble_eq_true q; omega)
  rw [e]
  show X (1 + (12 + c - 12)) = X (1 + c)
  congr 1
  omega
theorem fresh_md {T : Nat} {X R Q X2 : St} {p v : Int32} {k : Nat} (h : REL T X R) (hm : MH X) (hp : p = nI k) (hk : k < 15) (hq : FRS (up (R 2) k v) (Q 0)) (hr : RI (Q 0)) (e : X2 = xX4_freshWith X p v) : MD X Q (R 0) X2 := by
  obtain ⟨⟨h1, -, -, -⟩, -, -, -, -, h6⟩ := h
  unfold xX4_freshWith at e
  obtain ⟨z, ez, e⟩ := nm_el e
  rw [nm_eq] at e
  have hs : SET (sh 12 (sh2 25 12 1 X)) (R 2) := by
    obtain ⟨⟨s1, s2⟩, -⟩ := h1
    exact ⟨by rw [sh2_12]; exact s1, fun j hj => by rw [sh2_12]; exact s2 j hj⟩
  have hg : sh2 25 12 1 X 12 3 = R 2 15 := by
    obtain ⟨-, ⟨g, -⟩, -⟩ := h1
    exact g
  obtain ⟨q1, q2, q3⟩ := hatch_rel hs hg hm.1 hm.2.1 hm.2.2 hp hk hq ez
  have x25 : ∀ c, c < 12 → sh 25 X2 c = z c := by
    intro c hc
    show X2 (25 + c) = z c
    rw [e, put2_a (by omega) (by omega)]
    congr 1
    omega
  refine ⟨fun c hc => ?_, ⟨q1.ext x25, hr, ?_⟩, ?_, ?_⟩
  · by_cases w : 1 ≤ c ∧ c < 13
    · rw [e, put2_b (by omega) (by omega) (by omega), q3 _ (by omega)]
      have t := sh2_12 X (c - 1)
      have t2 : sh 12 (sh2 25 12 1 X) (c - 1) = sh2 25 12 1 X (12 + (c - 1)) := rfl
      rw [← t2, t]
      congr 1
      omega
    · rw [e, put2_out (by omega) (by omega)]
  · refine Or.inl ⟨?_, h6⟩
    rw [x25 0 (by decide)]
    exact q2
  · obtain ⟨-, -, -, -, w5, -⟩ := hq
    exact w5 23 (by decide) (by decide)
  · obtain ⟨-, -, -, -, w5, -⟩ := hq
    exact w5 22 (by decide) (by decide)
theorem BE.mh {b : St} {r : Nat → Int32} (h : BE 0 b r) (hz : rz r) : 0 ≤ (b 4 1).toInt ∧ 0 ≤ (b 6 1).toInt ∧ 0 ≤ (b 8 1).toInt := by
  obtain ⟨-, -, ⟨k1, k2, k3, -⟩, -⟩ := h
  rw [k1, k2, k3]
  exact ⟨hz.2.1.1, hz.2.1.1, hz.2.1.1⟩
theorem put25 {u X X3 : St} (e : X3 = put 25 12 u X) : (∀ c, c < 12 → sh 25 X3 c = u c) ∧ ∀ c, c < 25 ∨ 37 ≤ c → X3 c = X c := by
  refine ⟨fun c hc => ?_, fun c hc => by rw [e, put_out (by omega)]⟩
  show X3 (25 + c) = u c
  rw [e, put_in (by omega) (by omega)]
  congr 1
  omega
theorem md_fx {X Q X2 X3 u : St} {v : Nat → Int32} {r : Nat → Int32} (h : MD X Q v X2) (hb : BE 0 u r) (hz : rz r) (e : X3 = put 25 12 u X2) : FX X X3 := by
  obtain ⟨p1, p2⟩ := put25 e
  refine ⟨fun c hc => (p2 c hc).trans (h.1 c hc), ?_⟩
  have m := hb.mh hz
  have e4 : X3 29 = u 4 := p1 4 (by decide)
  have e6 : X3 31 = u 6 := p1 6 (by decide)
  have e8 : X3 33 = u 8 := p1 8 (by decide)
  unfold MH
  rw [e4, e6, e8]
  exact m
theorem md_in {X Q X2 X3 : St} {v : Nat → Int32} {p : Int32} {n : Nat} {z : Int32 × St} (h : MD X Q v X2) (hp : p.toInt = n) (hn : n ≤ 3000) (ez : z = xX0_nodsIn (sh 25 X2) p) (e : X3 = put 25 12 z.2 X2) : z.1 = rIt v Q n 0 23 ∧ (0 ≤ (rIt v Q n 0 23).toInt ∧ (rIt v Q n 0 23).toInt ≤ n) ∧ FX X X3 := by
  rw [nodsIn_eq (sh 25 X2) hp] at ez
  have rr := run_rel h.2.1 n
  have e0 : sh 25 X2 0 11 = 0 := by rw [h.2.1.1.nods, h.2.2.1]
  refine ⟨?_, run_nods h.2.1 h.2.2.1 n (by omega), md_fx h (u := z.2) (r := rIt v Q n 0) (by rw [ez]; exact rr.1.1) rr.1.2.1.1 e⟩
  rw [ez]
  show cIt (sh 25 X2) n 0 11 - sh 25 X2 0 11 = _
  rw [e0, rr.1.1.nods, Int32.sub_zero]
theorem md_wi {X Q X2 X3 : St} {v : Nat → Int32} {p : Int32} {n : Nat} {z : Int32 × St} (h : MD X Q v X2) (hp : p.toInt = n) (hn : n ≤ 3000) (ez : z = xX0_nodsWithin (sh 25 X2) p) (e : X3 = put 25 12 z.2 X2) : ((z.1 = 0 ∧ rIt v Q n 0 23 ≤ 0) ∨ (z.1 = 1 ∧ ¬ rIt v Q n 0 23 ≤ 0)) ∧ FX X X3 := by
  obtain ⟨q1, i, q2⟩ := within_rel h.2.1 h.2.2.1 hp hn ez
  have rr := run_rel h.2.1 i
  exact ⟨q1, md_fx h (u := z.2) (r := rIt v Q i 0) (by rw [q2]; exact rr.1.1) rr.1.2.1.1 e⟩
theorem md_with {X Q Q2 X2 X3 : St} {v : Nat → Int32} {p w : Int32} {k : Nat} (h : MD X Q v X2) (hp : p = nI k) (hk : k < 15) (hq : Q2 0 = up (Q 0) k w) (hr : RI (Q2 0)) (e : X3 = put 25 12 (xX0_with (sh 25 X2) p w) X2) : MD X Q2 v X3 := by
  obtain ⟨h1, ⟨h2, -, h4⟩, h5, h6⟩ := h
  obtain ⟨u, eu⟩ : ∃ u, u = xX0_with (sh 25 X2) p w := ⟨_, rfl⟩
  rw [← eu] at e
  obtain ⟨p1, p2⟩ := put25 e
  have pk : p.toInt = k := by rw [hp]; exact nI_toInt (by omega)
  have pn : p.toNatClampNeg = k := by rw [tnc, pk]; rfl
  unfold xX0_with at eu
  obtain ⟨z1, e1, eu⟩ := nm_el eu
  rw [nm_eq] at eu
  have s1 : sh 1 (sh 25 X2) 0 1 = 15 := h2.1.1
  unfold xX1_put at e1
  rw [if_neg (by rw [i_lt, z32, pk]; omega), s1, if_neg (by rw [i_le, pk, show (15 : Int32).toInt = 15 from rfl]; omega), nm_eq, pn] at e1
  have uc : ∀ c, c ≠ 2 → u c = sh 25 X2 c := by
    intro c hc
    by_cases q : c = 1
    · subst q
      rw [eu]
      refine (put_in (by decide) (by decide)).trans ?_
      rw [e1]
      exact sa_ne (by decide)
    · rw [eu, put_out (by omega)]
  have u2 : u 2 = up (sh 25 X2 2) k w := by
    rw [eu]
    refine (put_in (by decide) (by decide)).trans ?_
    rw [e1]
    exact sa_eq _ _ _
  have hb : BE 0 u (Q2 0) := by
    obtain ⟨⟨a1, a2⟩, hin, ⟨k1, k2, k3, k4⟩, ⟨d1, d2⟩⟩ := h2
    have qj : ∀ j, 15 ≤ j → Q2 0 j = Q 0 j := fun j hj => by rw [hq, up_ne (by omega)]
    refine ⟨⟨?_, fun j hj => ?_⟩, ?_, ⟨?_, ?_, ?_, fun j hj => ?_⟩, ⟨?_, fun j hj => ?_⟩⟩
    · rw [uc 1 (by decide)]; exact a1
    · rw [u2, hq, up_get, up_get, a2 j hj]
    · unfold IN
      rw [uc 0 (by decide), qj 15 (by decide), qj 16 (by decide), qj 17 (by decide), qj 18 (by decide), qj 19 (by decide), qj 20 (by decide), qj 21 (by decide), qj 22 (by decide), qj 23 (by decide), qj 24 (by decide), qj 25 (by decide), qj 26 (by decide), qj 27 (by decide), qj 28 (by decide)]
      exact hin
    · rw [uc 4 (by decide), qj 150 (by decide)]; exact k1
    · rw [uc 6 (by decide), qj 150 (by decide)]; exact k2
    · rw [uc 8 (by decide), qj 150 (by decide)]; exact k3
    · rw [qj 150 (by decide)] at hj
      rw [uc 5 (by decide), uc 7 (by decide), uc 9 (by decide), qj _ (by omega), qj _ (by omega), qj _ (by omega)]
      exact k4 j hj
    · rw [uc 10 (by decide), qj 89 (by decide)]; exact d1
    · rw [qj 89 (by decide)] at hj
      rw [uc 11 (by decide), qj _ (by omega)]
      exact d2 j hj
  refine ⟨fun c hc => (p2 c hc).trans (h1 c hc), ⟨hb.ext p1, hr, h4.fr ?_⟩, ?_, ?_⟩
  · rw [p1 0 (by decide), uc 0 (by decide)]
  · rw [hq, up_ne (by omega)]; exact h5
  · rw [hq, up_ne (by omega)]; exact h6
/-- the reference's fresh row: with a setting told, and the settings as they were behind -/
theorem lesser500 {x : Int32} (h : 10 ≤ x.toInt ∧ x.toInt ≤ 99) : xX5_lesser 500 (100 * x) = 500 := by
  have q : (100 * x).toInt = 100 * x.toInt := by
    rw [i_mul] <;> rw [show (100 : Int32).toInt = 100 from rfl] <;> omega
  unfold xX5_lesser
  split
  · rename_i c
    have c2 := Int32.le_iff_toInt_le.mp c
    rw [q, show (500 : Int32).toInt = 500 from rfl] at c2
    omega
  · rfl
theorem fresh_row {R R2 : St} (hf : 10 ≤ (R 2 0).toInt ∧ (R 2 0).toInt ≤ 99) (e : R2 = xX5_fresh R) : FRS (R 2) (R2 4) ∧ F4 R R2 := by
  rw [fresh_eq] at e
  have c := freshens_eq (sh2 2 1 4 R)
  obtain ⟨z, ez⟩ : ∃ z, z = xX5_freshens (sh2 2 1 4 R) := ⟨_, rfl⟩
  rw [← ez] at c e
  obtain ⟨c1, c2⟩ := c
  have r4 : R2 4 = z 1 := by rw [e]; exact put2_b (by decide) (by decide) (by decide)
  have s0 : sh2 2 1 4 R 0 = R 2 := rfl
  rw [s0] at c2
  have f4 : F4 R R2 := by
    intro k hk
    by_cases q : k = 2
    · subst q
      rw [e]
      refine (put2_a (by decide) (by decide)).trans ?_
      exact c1 0 (by decide)
    · rw [e, put2_out (by omega) (by omega)]
  refine ⟨⟨fun j hj => ?_, ?_, ?_, ?_, fun j h1 h2 => ?_, ?_, ?_⟩, f4⟩
  · rw [r4, c2, if_neg (by omega), if_neg (by omega), if_neg (by omega), if_neg (by omega), if_neg (by omega), if_neg (by omega), if_pos (by omega)]
  · rw [r4, c2]; rfl
  · rw [r4, c2]; rfl
  · rw [r4, c2, if_neg (by decide), if_neg (by decide), if_pos rfl]
    exact lesser500 hf
  · rw [r4, c2, if_neg (by omega), if_neg (by omega), if_neg (by omega), if_neg (by omega), if_neg (by omega), if_pos (by omega)]
  · rw [r4, c2, if_neg (by decide), if_pos rfl]
  · rw [r4, c2, if_pos rfl]
theorem freshBy_eq {R : St} {y : Int32 × St} {p0 p1 p2 : Int32} {k n : Nat} (hp : p0 = nI k) (hk : k < 15) (hn : p2.toInt = n) (hf : 10 ≤ (up (R 2) k p1 0).toInt ∧ (up (R 2) k p1 0).toInt ≤ 99) (ey : y = xX5_freshBy R p0 p1 p2) : ∃ Q : St, FRS (up (R 2) k p1) (Q 0) ∧ y.1 = rIt (R 0) Q n 0 23 ∧ y.2 4 = rIt (R 0) Q n 0 ∧ F4 R y.2 := by
  have pk : p0.toInt = k := by rw [hp]; exact nI_toInt (by omega)
  have pn : p0.toNatClampNeg = k := by rw [tnc, pk]; rfl
  unfold xX5_freshBy at ey
  rw [pn] at ey
  obtain ⟨x1, e1, ey⟩ := nm_el ey
  obtain ⟨M2, e2, ey⟩ := nm_el ey
  obtain ⟨M3, e3, ey⟩ := nm_el ey
  obtain ⟨M4, e4, ey⟩ := nm_el ey
  obtain ⟨z5, e5, ey⟩ := nm_el ey
  obtain ⟨M6, e6, ey⟩ := nm_el ey
  have m22 : M2 2 = up (R 2) k p1 := by rw [e2, sa_eq]
  have m2 : ∀ c, c ≠ 2 → M2 c = R c := fun c hc => by rw [e2, sa_ne hc]
  obtain ⟨f1, f2⟩ := fresh_row (R := M2) (by rw [m22]; exact hf) e3
  rw [m22] at f1
  have m32 : M3 2 = up (R 2) k p1 := by rw [f2 2 (by decide), m22]
  have m42 : M4 2 = R 2 := by
    rw [e4, sa_eq, m32]
    funext j
    by_cases q : j = k
    · rw [q, up_eq, e1]
    · rw [up_ne q, up_ne q]
  have m4 : ∀ c, c ≠ 4 → M4 c = R c := by
    intro c hc
    by_cases q : c = 2
    · rw [q, m42]
    · rw [e4, sa_ne q, f2 c hc, m2 c q]
  have m44 : M4 4 = M3 4 := by rw [e4, sa_ne (by decide)]
  rw [m4 0 (by decide), goesOn_eq (R 0) (sh 4 M4) hn] at e5
  refine ⟨sh 4 M4, ?_, ?_, ?_, fun c hc => ?_⟩
  · show FRS _ (M4 4)
    rw [m44]
    exact f1
  · rw [ey]
    exact congrArg Prod.fst e5
  · rw [ey]
    show M6 4 = _
    rw [e6]
    refine (put_in (by decide) (by decide)).trans ?_
    exact congrFun (congrArg Prod.snd e5) 0
  · rw [ey]
    show M6 c = R c
    rw [e6, put_out (by omega), m4 c hc]
