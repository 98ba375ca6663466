/-! small sums -/
theorem z32 : (0 : Int32).toInt = 0 := rfl
theorem o32 : (1 : Int32).toInt = 1 := rfl
theorem i_dv {a c : Int32} (d : Nat) (hc : c = nI d) (h0 : 0 < d) (hd : d < 2 ^ 31) (h : 0 ≤ a.toInt) : (a / c).toInt = a.toInt / (d : Int) := by
  subst hc
  obtain ⟨j, hj, rfl⟩ := nI_of (x := a) (by rw [i_lt, z32]; exact h)
  have hq : j / d < 2 ^ 31 := Nat.lt_of_le_of_lt (Nat.div_le_self j d) hj
  rw [pk_div hj h0 hd, nI_toInt hq, nI_toInt hj]
  rfl
theorem i_rm {a c : Int32} (d : Nat) (hc : c = nI d) (h0 : 0 < d) (hd : d < 2 ^ 31) (h : 0 ≤ a.toInt) : (a - a / c * c).toInt = a.toInt % (d : Int) := by
  subst hc
  obtain ⟨j, hj, rfl⟩ := nI_of (x := a) (by rw [i_lt, z32]; exact h)
  have hq : j % d < 2 ^ 31 := Nat.lt_of_le_of_lt (Nat.mod_le j d) hj
  rw [pk_rem hj h0 hd, nI_toInt hq, nI_toInt hj]
  rfl
theorem i_inc {a : Int32} (h : a.toInt < 2147483647) : (a + 1).toInt = a.toInt + 1 := by
  have := Int32.le_toInt a
  rw [i_add] <;> rw [o32] <;> omega
theorem sw3 {s : Int32} (h0 : 0 ≤ s.toInt) (h1 : s.toInt ≤ 300) : (s + 1) - (s + 1) / 3 * 3 = 0 ↔ s - s / 3 * 3 = 2 := by
  have e : (s + 1).toInt = s.toInt + 1 := i_inc (by omega)
  have a := i_rm (a := s + 1) (c := 3) 3 rfl (by decide) (by decide) (by omega)
  have b := i_rm (a := s) (c := 3) 3 rfl (by decide) (by decide) h0
  rw [e] at a
  constructor
  · intro q
    rw [q, z32] at a
    apply Int32.toInt_inj.mp
    rw [b, show (2 : Int32).toInt = 2 from rfl]
    omega
  · intro q
    rw [q, show (2 : Int32).toInt = 2 from rfl] at b
    apply Int32.toInt_inj.mp
    rw [a, z32]
    omega
theorem swd {w : Int32} (h0 : 0 ≤ w.toInt) (h1 : w.toInt ≤ 88) : (w / 8 * 7).toInt = w.toInt / 8 * 7 := by
  have a := i_dv (a := w) (c := 8) 8 rfl (by decide) (by decide) h0
  rw [i_mul] <;> rw [a, show (7 : Int32).toInt = 7 from rfl] <;> omega
theorem put_out {o n a : Nat} {u M : St} (h : a < o ∨ o + n ≤ a) : put o n u M a = M a := by
  unfold put
  have e : (Nat.ble o a && Nat.blt a (o + n)) = false := by
    rw [Bool.and_eq_false_iff]
    rcases h with h | h
    · exact Or.inl (Bool.eq_false_iff.mpr (fun q => by have := Nat.le_of_ble_eq_true q; omega))
    · exact Or.inr (Bool.eq_false_iff.mpr (fun q => by have : a + 1 ≤ o + n := Nat.le_of_ble_eq_true q; omega))
  rw [e]
  rfl
theorem put_in {o n a : Nat} {u M : St} (h1 : o ≤ a) (h2 : a < o + n) : put o n u M a = u (a - o) := by
  unfold put
  have e : (Nat.ble o a && Nat.blt a (o + n)) = true := by
    rw [Bool.and_eq_true]
    exact ⟨Nat.ble_eq_true_of_le h1, Nat.ble_eq_true_of_le (show a + 1 ≤ o + n from h2)⟩
  rw [e]
  rfl
/-! what holds of the reference's row: the settings' bounds, the states' numbers -/
def STT (r : Nat → Int32) : Prop := (r 7 = 0 ∨ r 7 = 1) ∧ 10 ≤ (r 0).toInt ∧ (r 0).toInt ≤ 99 ∧ 0 ≤ (r 2).toInt ∧ (r 2).toInt ≤ 99
def KS (q : Nat → Int32) : Prop := (q 24 = 1 → 0 ≤ (q 25).toInt ∧ (q 25).toInt / 3 + (q 26).toInt ≤ 88 ∧ 10 ≤ (q 26).toInt) ∧ (q 24 = 2 → 0 ≤ (q 25).toInt ∧ (q 25).toInt ≤ 4)
def KS1 (q : Nat → Int32) : Prop := (q 24 = 1 → -1 ≤ (q 25).toInt ∧ ((q 25).toInt + 1) / 3 + (q 26).toInt ≤ 88 ∧ 10 ≤ (q 26).toInt) ∧ (q 24 = 2 → -1 ≤ (q 25).toInt ∧ (q 25).toInt ≤ 3)
theorem goesTo_fr (M : St) (k : Int32) {j : Nat} (hj : j ≠ 24 ∧ j ≠ 25 ∧ j ≠ 26) : xX5_goesTo M k 0 j = M 0 j := by
  rw [goesTo_eq, sa_eq, up_ne hj.2.2, up_ne hj.2.1, up_ne hj.1]
theorem goesTo_ks (M : St) (k : Int32) : KS1 (xX5_goesTo M k 0) := by
  have e24 : xX5_goesTo M k 0 24 = k := by rw [goesTo_eq, sa_eq, up_ne (by decide), up_ne (by decide), up_eq]
  have e25 : xX5_goesTo M k 0 25 = -1 := by rw [goesTo_eq, sa_eq, up_ne (by decide), up_eq]
  have e26 : xX5_goesTo M k 0 26 = if k = 1 then 88 else 0 := by rw [goesTo_eq, sa_eq, up_eq]
  unfold KS1
  rw [e24, e25, e26]
  refine ⟨fun h => ?_, fun _ => by decide⟩
  rw [if_pos h]
  decide
/-! rising, tipping, emptying: the heads behind the air -/
theorem clamp_rel {y x : Int32} (hx : 0 ≤ x.toInt) : (if 0 < (if y < x then y else x) then (if y < x then y else x) else 0) = if 0 ≤ y then (if y ≤ x then y else x) else 0 := by
  rw [mx0]
  by_cases h : y < x
  · have h2 := Int32.lt_iff_toInt_lt.mp h
    rw [if_pos h, if_pos (show y ≤ x by rw [Int32.le_iff_toInt_le]; omega)]
  · have h2 := i_lt.mp h
    rw [if_neg h, if_pos (show (0 : Int32) ≤ x by rw [Int32.le_iff_toInt_le, z32]; omega), if_pos (show (0 : Int32) ≤ y by rw [Int32.le_iff_toInt_le, z32]; omega)]
    by_cases h3 : y ≤ x
    · rw [if_pos h3]
      have h4 := Int32.le_iff_toInt_le.mp h3
      apply Int32.toInt_inj.mp
      omega
    · rw [if_neg h3]
theorem mn1 (a c : Int32) : (if a < c then a else c) = xX5_lesser a c := by
  unfold xX5_lesser
  by_cases h : a < c
  · have h2 := Int32.lt_iff_toInt_lt.mp h
    rw [if_pos h, if_neg (by rw [i_le]; omega)]
  · rw [if_neg h, if_pos (by rw [Int32.le_iff_toInt_le]; exact i_lt.mp h)]
/-- the class's step z of b, the reference's step N of M: alike behind, the DRAW unchanged -/
def STP (b z : St) (N : St) : Prop := BE 1 z (N 0) ∧ z 0 16 = b 0 16
theorem turn16 (b : St) (k : Int32) : xX0_turn b k 0 16 = b 0 16 := by
  rw [turn_eq, sa_eq, up_ne (by decide), up_ne (by decide), up_ne (by decide)]
theorem turn_stp {δ : Int32} {b M : St} (k : Int32) (h : BE δ b (M 0)) : STP b (xX0_turn b k) (xX5_goesTo M k) := ⟨turn_rel k h, turn16 b k⟩
/-- slot i of the object and place j of the row, both changed to x -/
theorem BE.two {δ : Int32} {b M : St} {i j : Nat} {x : Int32} (h : BE δ b (M 0)) (hi : 14 < j ∧ j < 29) (hn : IN δ (up (b 0) i x) (up (M 0) j x)) : BE δ (sa b 0 (up (b 0) i x)) (sa M 0 (up (M 0) j x) 0) := by
  refine h.fr (fun c hc => sa_ne hc) (fun k hk => ?_) ?_
  · rw [sa_eq, up_ne (by omega)]
  · rw [sa_eq, sa_eq]
    exact hn
theorem two7 {δ : Int32} {b M : St} (x : Int32) (h : BE δ b (M 0)) : BE δ (sa b 0 (up (b 0) 7 x)) (sa M 0 (up (M 0) 19 x) 0) := by
  refine BE.two h (by decide) ?_
  obtain ⟨-, ⟨a1, a2, a3, a4, a5, a6, a7, a8, a9, a10, a11, a12, a13, a14⟩, -, -⟩ := h
  unfold IN
  simp only [up_get]
  simp [a1, a2, a3, a4, a6, a7, a8, a9, a10, a11, a12, a13, a14]
theorem two17 {δ : Int32} {b M : St} (x : Int32) (h : BE δ b (M 0)) : BE δ (sa b 0 (up (b 0) 17 x)) (sa M 0 (up (M 0) 27 x) 0) := by
  refine BE.two h (by decide) ?_
  obtain ⟨-, ⟨a1, a2, a3, a4, a5, a6, a7, a8, a9, a10, a11, a12, a13, a14⟩, -, -⟩ := h
  unfold IN
  simp only [up_get]
  simp [a1, a2, a3, a4, a5, a6, a7, a8, a9, a10, a11, a12, a14]
theorem two14 {δ : Int32} {b M : St} (x : Int32) (h : BE δ b (M 0)) : BE δ (sa b 0 (up (b 0) 14 x)) (sa M 0 (up (M 0) 26 x) 0) := by
  refine BE.two h (by decide) ?_
  obtain ⟨-, ⟨a1, a2, a3, a4, a5, a6, a7, a8, a9, a10, a11, a12, a13, a14⟩, -, -⟩ := h
  unfold IN
  simp only [up_get]
  simp [a1, a2, a3, a4, a5, a6, a7, a8, a9, a10, a11, a13, a14]
theorem two11 {δ : Int32} {b M : St} (x : Int32) (h : BE δ b (M 0)) : BE δ (sa b 0 (up (b 0) 11 x)) (sa M 0 (up (M 0) 23 x) 0) := by
  refine BE.two h (by decide) ?_
  obtain ⟨-, ⟨a1, a2, a3, a4, a5, a6, a7, a8, a9, a10, a11, a12, a13, a14⟩, -, -⟩ := h
  unfold IN
  simp only [up_get]
  simp [a1, a2, a3, a4, a5, a6, a7, a8, a10, a11, a12, a13, a14]
theorem two3 {δ : Int32} {b M : St} (x : Int32) (h : BE δ b (M 0)) : BE δ (sa b 0 (up (b 0) 3 x)) (sa M 0 (up (M 0) 15 x) 0) := by
  refine BE.two h (by decide) ?_
  obtain ⟨-, ⟨a1, a2, a3, a4, a5, a6, a7, a8, a9, a10, a11, a12, a13, a14⟩, -, -⟩ := h
  unfold IN
  simp only [up_get]
  simp [a2, a3, a4, a5, a6, a7, a8, a9, a10, a11, a12, a13, a14]
theorem two6 {δ : Int32} {b M : St} (x : Int32) (h : BE δ b (M 0)) : BE δ (sa b 0 (up (b 0) 6 x)) (sa M 0 (up (M 0) 18 x) 0) := by
  refine BE.two h (by decide) ?_
  obtain ⟨-, ⟨a1, a2, a3, a4, a5, a6, a7, a8, a9, a10, a11, a12, a13, a14⟩, -, -⟩ := h
  unfold IN
  simp only [up_get]
  simp [a1, a2, a3, a5, a6, a7, a8, a9, a10, a11, a12, a13, a14]
theorem two10 {δ : Int32} {b M : St} (x : Int32) (h : BE δ b (M 0)) : BE δ (sa b 0 (up (b 0) 10 x)) (sa M 0 (up (M 0) 22 x) 0) := by
  refine BE.two h (by decide) ?_
  obtain ⟨-, ⟨a1, a2, a3, a4, a5, a6, a7, a8, a9, a10, a11, a12, a13, a14⟩, -, -⟩ := h
  unfold IN
  simp only [up_get]
  simp [a1, a2, a3, a4, a5, a6, a7, a9, a10, a11, a12, a13, a14]
theorem sa16 {b : St} {i : Nat} {x : Int32} (h : 16 ≠ i) : sa b 0 (up (b 0) i x) 0 16 = b 0 16 := by
  rw [sa_eq, up_ne h]
theorem riseNoMore_rel {b M N z : St} {x2 : Int32} (h : BE 1 b (M 0)) (ez : z = xX0_riseNoMore b x2) (eN : N = if M 0 19 = x2 then xX5_goesTo M 4 else (if M 0 27 < 50 then M else xX5_goesTo M (if M 0 18 = 0 then (if M 0 14 ≤ M 0 15 then (5) else (6)) else (5)))) : STP b z N ∧ (N = M ∨ ∃ k, N = xX5_goesTo M k) := by
  have h0 := h
  obtain ⟨hs, ⟨a1, a2, a3, a4, a5, a6, a7, a8, a9, a10, a11, a12, a13, a14⟩, -, -⟩ := h
  unfold xX0_riseNoMore at ez
  simp only [nm_eq] at ez
  rw [a5, a13, a4, a1, at15 hs 14 14 rfl (by decide)] at ez
  by_cases c : M 0 19 = x2
  · rw [if_pos c] at ez eN
    rw [ez, eN]
    exact ⟨turn_stp 4 h0, Or.inr ⟨4, rfl⟩⟩
  · rw [if_neg c] at ez eN
    by_cases c2 : M 0 27 < 50
    · rw [if_pos c2] at ez eN
      rw [ez, eN]
      exact ⟨⟨h0, rfl⟩, Or.inl rfl⟩
    · rw [if_neg c2] at ez eN
      rw [ez, eN]
      exact ⟨turn_stp _ h0, Or.inr ⟨_, rfl⟩⟩
theorem ks1_of {q : Nat → Int32} (h1 : ¬ q 24 = 1) (h2 : ¬ q 24 = 2) : KS1 q := ⟨fun h => absurd h h1, fun h => absurd h h2⟩
theorem swingOn_rel {b M N z : St} (h : BE 1 b (M 0)) (hk : KS (M 0)) (k1 : M 0 24 = 1) (ez : z = xX0_swingOn b) (eN : N = if (M 0 25 - M 0 25 / 3 * 3) = 2 then (nm (sa M 0 (up (M 0) 26 ((M 0 26 / 8) * 7))) fun M17 => if 10 ≤ M17 0 26 then M17 else (nm (xX5_goesTo M17 0) fun M19 => M19)) else M) : STP b z N ∧ KS1 (N 0) ∧ ∀ j, (j ≠ 24 ∧ j ≠ 25 ∧ j ≠ 26) → N 0 j = M 0 j := by
  have h0 := h
  obtain ⟨hs, ⟨a1, a2, a3, a4, a5, a6, a7, a8, a9, a10, a11, a12, a13, a14⟩, -, -⟩ := h
  obtain ⟨w1, w2, w3⟩ := hk.1 k1
  have k2 : ¬ M 0 24 = 2 := by rw [k1]; decide
  have sw := sw3 (s := M 0 25) w1 (by omega)
  unfold xX0_swingOn at ez
  rw [a11] at ez
  obtain ⟨w, e1, ez⟩ := nm_el ez
  obtain ⟨M2, e2, ez⟩ := nm_el ez
  rw [e1] at e2
  clear e1
  by_cases c : M 0 25 - M 0 25 / 3 * 3 = 2
  · have r := i_rm (a := M 0 25) (c := 3) 3 rfl (by decide) (by decide) w1
    rw [c, show (2 : Int32).toInt = 2 from rfl] at r
    rw [if_pos (sw.mpr c), nm_eq, a12] at e2
    rw [if_pos c] at eN
    obtain ⟨M17, f1, eN⟩ := nm_el eN
    have h17 : BE 1 M2 (M17 0) := by rw [e2, f1]; exact two14 _ h0
    have t16 : M2 0 16 = b 0 16 := by rw [e2]; exact sa16 (by decide)
    have f26 : M17 0 26 = M 0 26 / 8 * 7 := by rw [f1, sa_eq, up_eq]
    have c26 : M2 0 14 = M17 0 26 := by
      obtain ⟨-, ⟨-, -, -, -, -, -, -, -, -, -, -, g, -, -⟩, -, -⟩ := h17
      exact g
    have fr : ∀ j, j ≠ 26 → M17 0 j = M 0 j := fun j hj => by rw [f1, sa_eq, up_ne hj]
    rw [c26] at ez
    have d := swd (w := M 0 26) (by omega) (by omega)
    rw [← f26] at d
    by_cases c3 : 10 ≤ M17 0 26
    · rw [if_pos c3] at ez eN
      have c4 := Int32.le_iff_toInt_le.mp c3
      rw [show (10 : Int32).toInt = 10 from rfl] at c4
      subst ez
      subst eN
      refine ⟨⟨h17, t16⟩, ⟨fun _ => ?_, fun q => ?_⟩, fun j hj => fr j hj.2.2⟩
      · rw [fr 25 (by decide)]
        omega
      · rw [fr 24 (by decide)] at q
        exact absurd q k2
    · rw [if_neg c3, nm_eq] at ez eN
      subst ez
      subst eN
      have t := turn_stp 0 h17
      refine ⟨⟨t.1, t.2.trans t16⟩, goesTo_ks _ _, fun j hj => ?_⟩
      rw [goesTo_fr _ _ hj, fr j hj.2.2]
  · rw [if_neg (fun q => c (sw.mp q))] at e2
    rw [if_neg c] at eN
    have c14 : M2 0 14 = M 0 26 := by rw [e2]; exact a12
    have c3 : 10 ≤ M 0 26 := by rw [Int32.le_iff_toInt_le]; exact w3
    rw [c14, if_pos c3, e2] at ez
    rw [ez, eN]
    have r := i_rm (a := M 0 25) (c := 3) 3 rfl (by decide) (by decide) w1
    have r2 : (M 0 25).toInt % 3 ≠ 2 := by
      intro q
      apply c
      apply Int32.toInt_inj.mp
      rw [r]
      exact q
    refine ⟨⟨h0, rfl⟩, ⟨fun _ => ?_, fun q => absurd q k2⟩, fun j _ => rfl⟩
    omega
theorem rises_rel {b M z N : St} (h : BE 1 b (M 0)) (hs : STT (M 0)) (hk : KS (M 0)) (h2 : ¬ M 0 24 = 2) (ez : z = xX0_rise b) (eN : N = xX5_rises M) : STP b z N ∧ KS1 (N 0) ∧ ∀ j, (j ≠ 19 ∧ j ≠ 24 ∧ j ≠ 25 ∧ j ≠ 26 ∧ j ≠ 27) → N 0 j = M 0 j := by
  have h0 := h
  obtain ⟨hset, ⟨a1, a2, a3, a4, a5, a6, a7, a8, a9, a10, a11, a12, a13, a14⟩, -, -⟩ := h
  obtain ⟨s7, s0l, s0g, s2l, s2g⟩ := hs
  have q100 : (100 * M 0 2).toInt = 100 * (M 0 2).toInt := by
    rw [i_mul] <;> rw [show (100 : Int32).toInt = 100 from rfl] <;> omega
  unfold xX0_rise at ez
  unfold xX5_rises at eN
  obtain ⟨x1, e1, ez⟩ := nm_el ez
  obtain ⟨M2, e2, ez⟩ := nm_el ez
  obtain ⟨v4, e4, ez⟩ := nm_el ez
  obtain ⟨M5, e5, ez⟩ := nm_el ez
  obtain ⟨y1, f1, eN⟩ := nm_el eN
  obtain ⟨x2, f2, eN⟩ := nm_el eN
  obtain ⟨v5, f5, eN⟩ := nm_el eN
  obtain ⟨M6, f6, eN⟩ := nm_el eN
  obtain ⟨v8, f8, eN⟩ := nm_el eN
  obtain ⟨M9, f9, eN⟩ := nm_el eN
  rw [at15 hset 2 2 rfl (by decide)] at e1
  have hx : x1 = x2 := by rw [e1, f2]
  rw [hx] at e2 ez
  have hx0 : 0 ≤ x2.toInt := by rw [f2, q100]; omega
  rw [a5, a14, ← f1, clamp_rel hx0, ← f5] at e2
  have k6 : BE 1 M2 (M6 0) := by rw [e2, f6]; exact two7 _ h0
  have k6i := k6.2.1
  obtain ⟨-, -, -, -, -, -, -, -, -, -, -, -, b13, b14⟩ := k6i
  have hv : v4 = v8 := by rw [e4, f8, b14, b13]
  rw [hv] at e5
  have k9 : BE 1 M5 (M9 0) := by rw [e5, f9]; exact two17 _ k6
  have t16 : M5 0 16 = b 0 16 := by rw [e5, sa16 (by decide), e2, sa16 (by decide)]
  have fr : ∀ j, j ≠ 19 ∧ j ≠ 27 → M9 0 j = M 0 j := fun j hj => by rw [f9, sa_eq, up_ne hj.2, f6, sa_eq, up_ne hj.1]
  have k9i := k9.2.1
  obtain ⟨c1, c2, c3, c4, c5, c6, c7, c8, c9, c10, c11, c12, c13, c14⟩ := k9i
  rw [height_rel k9, c5, c10, c14] at ez
  have g24 : M9 0 24 = M 0 24 := fr 24 (by decide)
  have ks9 : KS (M9 0) := by
    unfold KS
    rw [g24, fr 25 (by decide), fr 26 (by decide)]
    exact hk
  have stay : (∃ k, N = xX5_goesTo M9 k) → KS1 (N 0) ∧ ∀ j, (j ≠ 19 ∧ j ≠ 24 ∧ j ≠ 25 ∧ j ≠ 26 ∧ j ≠ 27) → N 0 j = M 0 j := by
    intro ⟨k, q⟩
    rw [q]
    exact ⟨goesTo_ks _ _, fun j hj => by rw [goesTo_fr _ _ ⟨hj.2.1, hj.2.2.1, hj.2.2.2.1⟩, fr j ⟨hj.1, hj.2.2.2.2⟩]⟩
  have stay0 : ¬ M9 0 24 = 1 → N = M9 → KS1 (N 0) ∧ ∀ j, (j ≠ 19 ∧ j ≠ 24 ∧ j ≠ 25 ∧ j ≠ 26 ∧ j ≠ 27) → N 0 j = M 0 j := by
    intro q1 q
    rw [q]
    exact ⟨ks1_of q1 (by rw [g24]; exact h2), fun j hj => fr j ⟨hj.1, hj.2.2.2.2⟩⟩
  have fin : ∀ {y : St}, STP M5 y N → STP b y N := fun q => ⟨q.1, q.2.trans t16⟩
  by_cases c : M9 0 19 < xX5_fullOf M9
  · rw [if_pos c] at ez eN
    by_cases d : M9 0 24 = 0
    · rw [if_pos d] at ez eN
      rw [nm_eq] at ez
      simp only [nm_eq] at eN
      obtain ⟨r1, r2⟩ := riseNoMore_rel k9 ez eN
      refine ⟨fin r1, ?_⟩
      rcases r2 with r2 | r2
      · exact stay0 (by rw [d]; decide) r2
      · exact stay r2
    · rw [if_neg d] at ez eN
      by_cases d1 : M9 0 24 = 1
      · rw [if_pos d1] at ez eN
        rw [nm_eq] at ez
        obtain ⟨r1, r2, r3⟩ := swingOn_rel k9 ks9 d1 ez eN
        exact ⟨fin r1, r2, fun j hj => by rw [r3 j ⟨hj.2.1, hj.2.2.1, hj.2.2.2.1⟩, fr j ⟨hj.1, hj.2.2.2.2⟩]⟩
      · rw [if_neg d1] at ez eN
        by_cases d2 : M9 0 28 ≤ 0
        · rw [if_pos d2] at ez eN
          rw [ez]
          exact ⟨fin ⟨by rw [eN]; exact k9, rfl⟩, stay0 d1 eN⟩
        · rw [if_neg d2] at ez eN
          by_cases d3 : x2 ≤ M9 0 19
          · rw [if_pos d3] at ez eN
            rw [ez]
            exact ⟨fin ⟨by rw [eN]; exact k9, rfl⟩, stay0 d1 eN⟩
          · rw [if_neg d3, nm_eq] at ez eN
            rw [ez]
            exact ⟨fin (by rw [eN]; exact turn_stp 0 k9), stay ⟨_, eN⟩⟩
  · rw [if_neg c, nm_eq] at ez eN
    rw [ez]
    exact ⟨fin (by rw [eN]; exact turn_stp 2 k9), stay ⟨_, eN⟩⟩
theorem empties_rel {b M z N : St} (h : BE 1 b (M 0)) (h3 : M 0 24 = 3) (ez : z = xX0_empty b) (eN : N = xX5_empties M) : STP b z N ∧ KS1 (N 0) ∧ ∀ j, (j ≠ 19 ∧ j ≠ 24 ∧ j ≠ 25 ∧ j ≠ 26) → N 0 j = M 0 j := by
  have h0 := h
  obtain ⟨hset, ⟨a1, a2, a3, a4, a5, a6, a7, a8, a9, a10, a11, a12, a13, a14⟩, -, -⟩ := h
  unfold xX0_empty at ez
  unfold xX5_empties at eN
  obtain ⟨M1, e1, ez⟩ := nm_el ez
  obtain ⟨x1, f1, eN⟩ := nm_el eN
  obtain ⟨v3, f3, eN⟩ := nm_el eN
  obtain ⟨M4, f4, eN⟩ := nm_el eN
  rw [a5, mx0, ← f1, ← f3] at e1
  have k4 : BE 1 M1 (M4 0) := by rw [e1, f4]; exact two7 _ h0
  have t16 : M1 0 16 = b 0 16 := by rw [e1, sa16 (by decide)]
  have fr : ∀ j, j ≠ 19 → M4 0 j = M 0 j := fun j hj => by rw [f4, sa_eq, up_ne hj]
  have c5 : M1 0 7 = M4 0 19 := by
    obtain ⟨-, ⟨-, -, -, -, g, -, -, -, -, -, -, -, -, -⟩, -, -⟩ := k4
    exact g
  rw [at15 k4.1 2 2 rfl (by decide), c5] at ez
  by_cases c : 5 * M4 0 2 < M4 0 19
  · rw [if_pos c] at ez eN
    rw [ez, eN]
    refine ⟨⟨k4, t16⟩, ks1_of ?_ ?_, fun j hj => fr j hj.1⟩
    · rw [fr 24 (by decide), h3]; decide
    · rw [fr 24 (by decide), h3]; decide
  · rw [if_neg c, nm_eq] at ez eN
    rw [ez, eN]
    have t := turn_stp 1 k4
    exact ⟨⟨t.1, t.2.trans t16⟩, goesTo_ks _ _, fun j hj => by rw [goesTo_fr _ _ hj.2, fr j hj.1]⟩
