/-! a NOD, and a whole TENTH -/
/-- the drum's step -/
def DRS (r q : Nat → Int32) : Prop := (60 ≤ r 89 ∧ q 89 = r 89 ∧ ∀ j, 29 ≤ j → q j = r j) ∨ (¬ 60 ≤ r 89 ∧ q 89 = r 89 + 1 ∧ q (29 + (r 89).toInt.toNat) = r 22 ∧ ∀ j, 29 ≤ j → j ≠ 89 → j ≠ 29 + (r 89).toInt.toNat → q j = r j)
theorem drum_rel {b M b4 M3 z3 : St} (h : BE 1 b (M 0)) (hz : rz (M 0)) (ez3 : z3 = xX1_add 60 (sh 10 b) (b 0 10)) (e4 : b4 = put 10 2 z3 b) (eM : M3 = if 60 ≤ M 0 89 then M else (nm (sa M 0 (up (M 0) ((29 + M 0 89 : Int32).toNatClampNeg) (M 0 22))) fun M12 => nm (sa M12 0 (up (M12 0) 89 (M12 0 89 + 1))) fun M13 => M13)) : BE 1 b4 (M3 0) ∧ b4 0 = b 0 ∧ (∀ j, j < 29 ∨ 90 ≤ j → M3 0 j = M 0 j) ∧ DRS (M 0) (M3 0) := by
  obtain ⟨⟨s1, s2⟩, hin, ⟨k1, k2, k3, k4⟩, ⟨d1, d2⟩⟩ := h
  have t8 : b 0 10 = M 0 22 := by
    obtain ⟨-, -, -, -, -, -, -, g, -, -, -, -, -, -⟩ := hin
    exact g
  have o4 : ∀ c, c < 10 → b4 c = b c := fun c hc => by rw [e4, put_out (Or.inl hc)]
  have p10 : b4 10 = z3 0 := by rw [e4]; exact put_in (by decide) (by decide)
  have p11 : b4 11 = z3 1 := by rw [e4]; exact put_in (by decide) (by decide)
  have s10 : sh 10 b 0 1 = M 0 89 := d1
  have hz0 := hz
  obtain ⟨⟨z1, z2⟩, -, -⟩ := hz
  have c60 : (60 : Int32).toInt = 60 := rfl
  unfold xX1_add at ez3
  rw [s10, show nI 60 = (60 : Int32) from rfl] at ez3
  have rest : (∀ j, j < 29 ∨ 90 ≤ j → M3 0 j = M 0 j) → SET b4 (M3 0) ∧ IN 1 (b4 0) (M3 0) ∧ BK b4 (M3 0) := by
    intro fr
    refine ⟨⟨?_, fun j hj => ?_⟩, ?_, ⟨?_, ?_, ?_, fun j hj => ?_⟩⟩
    · rw [o4 1 (by decide)]; exact s1
    · rw [o4 2 (by decide), fr j (by omega)]; exact s2 j hj
    · unfold IN
      rw [o4 0 (by decide), fr 15 (by omega), fr 16 (by omega), fr 17 (by omega), fr 18 (by omega), fr 19 (by omega), fr 20 (by omega), fr 21 (by omega), fr 22 (by omega), fr 23 (by omega), fr 24 (by omega), fr 25 (by omega), fr 26 (by omega), fr 27 (by omega), fr 28 (by omega)]
      exact hin
    · rw [o4 4 (by decide), fr 150 (by omega)]; exact k1
    · rw [o4 6 (by decide), fr 150 (by omega)]; exact k2
    · rw [o4 8 (by decide), fr 150 (by omega)]; exact k3
    · rw [fr 150 (by omega)] at hj
      rw [o4 5 (by decide), o4 7 (by decide), o4 9 (by decide), fr _ (by omega), fr _ (by omega), fr _ (by omega)]
      exact k4 j hj
  by_cases c : 60 ≤ M 0 89
  · rw [if_pos c] at ez3 eM
    have fr : ∀ j, j < 29 ∨ 90 ≤ j → M3 0 j = M 0 j := fun j _ => by rw [eM]
    obtain ⟨r1, r2, r3⟩ := rest fr
    refine ⟨⟨r1, r2, r3, ?_, fun j hj => ?_⟩, o4 0 (by decide), fr, Or.inl ⟨c, by rw [eM], fun j _ => by rw [eM]⟩⟩
    · rw [p10, ez3, eM]; exact d1
    · rw [eM] at hj ⊢
      rw [p11, ez3]
      exact d2 j hj
  · rw [if_neg c] at ez3 eM
    have c2 := i_le.mp c
    rw [c60] at c2
    have tn : (M 0 89).toNatClampNeg = (M 0 89).toInt.toNat := rfl
    have e29 : (29 + M 0 89 : Int32).toNatClampNeg = 29 + (M 0 89).toInt.toNat := by
      rw [tnc, (nd_t hz0 c).1]
      omega
    have e1 : (M 0 89 + 1).toInt = (M 0 89).toInt + 1 := i_inc (by omega)
    simp only [nm_eq] at ez3 eM
    obtain ⟨n, hn⟩ : ∃ n : Nat, n = (M 0 89).toInt.toNat := ⟨_, rfl⟩
    rw [e29, ← hn] at eM
    rw [tn, ← hn] at ez3
    have hn2 : (M 0 89).toInt = n := by omega
    have g89 : M3 0 89 = M 0 89 + 1 := by rw [eM, sa_eq, up_eq, sa_eq, up_ne (by omega)]
    have gn : M3 0 (29 + n) = M 0 22 := by rw [eM, sa_eq, up_ne (by omega), sa_eq, up_eq]
    have go : ∀ j, j ≠ 89 → j ≠ 29 + n → M3 0 j = M 0 j := fun j h1 h2 => by rw [eM, sa_eq, up_ne h1, sa_eq, up_ne h2]
    have fr : ∀ j, j < 29 ∨ 90 ≤ j → M3 0 j = M 0 j := fun j hj => go j (by omega) (by omega)
    obtain ⟨r1, r2, r3⟩ := rest fr
    refine ⟨⟨r1, r2, r3, ?_, fun j hj => ?_⟩, o4 0 (by decide), fr, Or.inr ⟨c, g89, by rw [← hn]; exact gn, fun j _ h1 h2 => go j h1 (by rw [hn]; exact h2)⟩⟩
    · rw [p10, g89, ez3, sa_eq, up_eq, sa_ne (by decide), s10]
    · rw [g89, e1] at hj
      rw [p11, ez3, sa_ne (by decide), sa_eq]
      by_cases q : j = n
      · rw [q, up_eq, gn, t8]
      · rw [up_ne q, go _ (by omega) (by omega)]
        exact d2 j (by omega)
theorem glass_rel {b M b6 M5 : St} (h : BE 1 b (M 0)) (e6 : b6 = if b 0 3 < (xX1_at 15 (sh 1 b) 14) then b else (if b 0 3 < 5 then b else (nm (sa b 0 (up (b 0) 3 (b 0 3 - 5))) fun M10 => nm (sa M10 0 (up (M10 0) 6 (if (M10 0 6 + 500) < (xX0_mostWet M10) then (M10 0 6 + 500) else (xX0_mostWet M10)))) fun M11 => M11))) (eM : M5 = if M 0 15 < M 0 14 then M else (if M 0 15 < 5 then M else (nm (sa M 0 (up (M 0) 15 (M 0 15 - 5))) fun M9 => nm (sa M9 0 (up (M9 0) 18 (xX5_lesser (M9 0 18 + 500) (100 * M9 0 0)))) fun M10 => M10))) : BE 1 b6 (M5 0) ∧ b6 0 16 = b 0 16 ∧ ∀ j, j ≠ 15 ∧ j ≠ 18 → M5 0 j = M 0 j := by
  have h0 := h
  obtain ⟨hset, ⟨a1, a2, a3, a4, a5, a6, a7, a8, a9, a10, a11, a12, a13, a14⟩, -, -⟩ := h
  rw [at15 hset 14 14 rfl (by decide), a1] at e6
  by_cases c : M 0 15 < M 0 14
  · rw [if_pos c] at e6 eM
    rw [e6, eM]
    exact ⟨h0, rfl, fun _ _ => rfl⟩
  · rw [if_neg c] at e6 eM
    by_cases d : M 0 15 < 5
    · rw [if_pos d] at e6 eM
      rw [e6, eM]
      exact ⟨h0, rfl, fun _ _ => rfl⟩
    · rw [if_neg d] at e6 eM
      obtain ⟨N1, f1, e6⟩ := nm_el e6
      obtain ⟨N2, f2, e6⟩ := nm_el e6
      obtain ⟨K1, g1, eM⟩ := nm_el eM
      obtain ⟨K2, g2, eM⟩ := nm_el eM
      have k1 : BE 1 N1 (K1 0) := by rw [f1, g1]; exact two3 _ h0
      have w1 : N1 0 6 = K1 0 18 := by
        obtain ⟨-, ⟨-, -, -, g, -, -, -, -, -, -, -, -, -, -⟩, -, -⟩ := k1
        exact g
      rw [mn1, w1, mostWet_rel k1] at f2
      have k2 : BE 1 N2 (K2 0) := by rw [f2, g2]; exact two6 _ k1
      rw [e6, eM]
      refine ⟨k2, by rw [f2, sa16 (by decide), f1, sa16 (by decide)], fun j hj => ?_⟩
      rw [g2, sa_eq, up_ne hj.2, g1, sa_eq, up_ne hj.1]
theorem DRS.fr {r r2 q q2 : Nat → Int32} (h : DRS r q) (h1 : r2 22 = r 22) (h2 : ∀ j, 29 ≤ j → r2 j = r j) (h3 : ∀ j, 29 ≤ j → q2 j = q j) : DRS r2 q2 := by
  rcases h with ⟨a, b, c⟩ | ⟨a, b, c, d⟩
  · refine Or.inl ⟨?_, ?_, fun j hj => ?_⟩
    · rw [h2 89 (by decide)]; exact a
    · rw [h2 89 (by decide), h3 89 (by decide)]; exact b
    · rw [h2 j hj, h3 j hj]; exact c j hj
  · refine Or.inr ⟨?_, ?_, ?_, fun j hj u v => ?_⟩
    · rw [h2 89 (by decide)]; exact a
    · rw [h2 89 (by decide), h3 89 (by decide)]; exact b
    · rw [h2 89 (by decide), h3 _ (by omega), h1]; exact c
    · rw [h2 89 (by decide)] at v
      rw [h2 j hj, h3 j hj]; exact d j hj u v
theorem nods_rel {b M z N : St} (h : BE 1 b (M 0)) (hz : rz (M 0)) (h5 : 5 ≤ b 0 13) (ez : z = xX0_tip b) (eN : N = xX5_nods M) : STP b z N ∧ KS1 (N 0) ∧ (∀ j, (j < 15 ∨ (15 < j ∧ j < 18) ∨ (18 < j ∧ j < 23) ∨ (26 < j ∧ j < 29) ∨ 90 ≤ j) → N 0 j = M 0 j) ∧ N 0 23 = M 0 23 + 1 ∧ DRS (M 0) (N 0) := by
  have h0 := h
  obtain ⟨-, ⟨a1, a2, a3, a4, a5, a6, a7, a8, a9, a10, a11, a12, a13, a14⟩, -, -⟩ := h
  unfold xX0_tip at ez
  unfold xX5_nods at eN
  rw [if_pos h5] at ez
  obtain ⟨M2, e2, ez⟩ := nm_el ez
  obtain ⟨z3, e3, ez⟩ := nm_el ez
  obtain ⟨M4, e4, ez⟩ := nm_el ez
  obtain ⟨w5, e5, ez⟩ := nm_el ez
  obtain ⟨M6, e6, ez⟩ := nm_el ez
  obtain ⟨M7, e7, ez⟩ := nm_el ez
  obtain ⟨M1, f1, eN⟩ := nm_el eN
  obtain ⟨w2, f2, eN⟩ := nm_el eN
  obtain ⟨M3, f3, eN⟩ := nm_el eN
  obtain ⟨w4, f4, eN⟩ := nm_el eN
  obtain ⟨N5, f5, eN⟩ := nm_el eN
  obtain ⟨N6, f6, eN⟩ := nm_el eN
  rw [f2] at f3
  rw [f4] at f5
  rw [e5] at e6
  have k2 : BE 1 M2 (M1 0) := by rw [e2, f1, a9]; exact two11 _ h0
  have fr1 : ∀ j, j ≠ 23 → M1 0 j = M 0 j := fun j hj => by rw [f1, sa_eq, up_ne hj]
  have rz1 : rz (M1 0) := by rw [f1, sa_eq]; exact rz_up hz (by decide) (by decide) (fun q => absurd q (by decide))
  obtain ⟨k3, o3, fr3, dr3⟩ := drum_rel k2 rz1 e3 e4 f3
  obtain ⟨k5, o5, fr5⟩ := glass_rel k3 e6 f5
  have t := turn_stp 3 k5
  rw [ez, eN, e7, f6]
  have f16 : xX0_turn M6 3 0 16 = b 0 16 := by
    rw [t.2, o5, o3, e2, sa16 (by decide)]
  refine ⟨⟨t.1, f16⟩, goesTo_ks _ _, fun j hj => ?_, ?_, ?_⟩
  · rw [goesTo_fr _ _ (by omega), fr5 j (by omega), fr3 j (by omega), fr1 j (by omega)]
  · rw [goesTo_fr _ _ (by decide), fr5 23 (by decide), fr3 23 (by decide), f1, sa_eq, up_eq]
  · exact dr3.fr (fr1 22 (by decide)).symm (fun j hj => (fr1 j (by omega)).symm) (fun j hj => by rw [goesTo_fr _ _ (by omega), fr5 j (by omega)])
/-- what a TENTH does to the reference's row -/
def TF (r q : Nat → Int32) : Prop := (∀ j, j < 15 ∨ 90 ≤ j → q j = r j) ∧ q 22 = r 22 + 1 ∧ ((q 23 = r 23 ∧ ∀ j, 29 ≤ j → q j = r j) ∨ (q 23 = r 23 + 1 ∧ DRS r q))
def RI (r : Nat → Int32) : Prop := rz r ∧ KS r ∧ STT r
theorem STT.fr {r q : Nat → Int32} (h : STT r) (e : ∀ j, j < 15 → q j = r j) : STT q := by
  unfold STT
  rw [e 7 (by decide), e 0 (by decide), e 2 (by decide)]
  exact h
theorem rz_drs {r q : Nat → Int32} (h : rz r) (h6 : q 6 = r 6) (h150 : q 150 = r 150) (d : q 89 = r 89 ∨ DRS r q) : rz q := by
  obtain ⟨⟨a, b⟩, c, e⟩ := h
  unfold rz
  rw [h6, h150]
  refine ⟨?_, c, e⟩
  rcases d with d | ⟨-, d, -⟩ | ⟨d1, d, -⟩
  · rw [d]; exact ⟨a, b⟩
  · rw [d]; exact ⟨a, b⟩
  · have d2 := i_le.mp d1
    rw [show (60 : Int32).toInt = 60 from rfl] at d2
    rw [d, i_inc (by omega)]
    omega
theorem last_rel {b z M N : St} (h : BE 1 b (M 0)) (ks : KS1 (M 0)) (ez : z = nm (sa b 0 (up (b 0) 10 (b 0 10 + 1))) fun M15 => M15) (eN : N = nm (sa M 0 (up (M 0) 25 (M 0 25 + 1))) fun M4 => nm (sa M4 0 (up (M4 0) 22 (M4 0 22 + 1))) fun M5 => M5) : BE 0 z (N 0) ∧ KS (N 0) ∧ z 0 16 = b 0 16 ∧ N 0 22 = M 0 22 + 1 ∧ ∀ j, j ≠ 22 ∧ j ≠ 25 → N 0 j = M 0 j := by
  have h0 := h
  obtain ⟨-, ⟨a1, a2, a3, a4, a5, a6, a7, a8, a9, a10, a11, a12, a13, a14⟩, -, -⟩ := h
  simp only [nm_eq] at ez eN
  have fr : ∀ j, j ≠ 22 ∧ j ≠ 25 → N 0 j = M 0 j := fun j hj => by rw [eN, sa_eq, up_ne hj.1, sa_eq, up_ne hj.2]
  have n25 : N 0 25 = M 0 25 + 1 := by rw [eN, sa_eq, up_ne (by decide), sa_eq, up_eq]
  have n22 : N 0 22 = M 0 22 + 1 := by rw [eN, sa_eq, up_eq, sa_eq, up_ne (by decide)]
  have zc : ∀ c, c ≠ 0 → z c = b c := fun c hc => by rw [ez, sa_ne hc]
  have zj : ∀ j, j ≠ 10 → z 0 j = b 0 j := fun j hj => by rw [ez, sa_eq, up_ne hj]
  have z10 : z 0 10 = b 0 10 + 1 := by rw [ez, sa_eq, up_eq]
  refine ⟨h0.fr zc (fun j hj => fr j (by omega)) ?_, ?_, zj 16 (by decide), n22, fr⟩
  · unfold IN
    rw [n25, n22, z10, zj 3 (by decide), zj 4 (by decide), zj 5 (by decide), zj 6 (by decide), zj 7 (by decide), zj 8 (by decide), zj 9 (by decide), zj 11 (by decide), zj 12 (by decide), zj 13 (by decide), zj 14 (by decide), zj 17 (by decide), zj 15 (by decide), fr 15 (by decide), fr 16 (by decide), fr 17 (by decide), fr 18 (by decide), fr 19 (by decide), fr 20 (by decide), fr 21 (by decide), fr 23 (by decide), fr 24 (by decide), fr 26 (by decide), fr 27 (by decide), fr 28 (by decide), Int32.add_zero, a8]
    exact ⟨a1, a2, a3, a4, a5, a6, a7, rfl, a9, a10, a11, a12, a13, a14⟩
  · unfold KS
    rw [fr 24 (by decide), fr 26 (by decide), n25]
    obtain ⟨k1, k2⟩ := ks
    constructor
    · intro q
      obtain ⟨q1, q2, q3⟩ := k1 q
      rw [i_inc (by omega)]
      omega
    · intro q
      obtain ⟨q1, q2⟩ := k2 q
      rw [i_inc (by omega)]
      omega
theorem tenth_rel {b M z N : St} {v : Nat → Int32} (h : BE 0 b (M 0)) (hr : RI (M 0)) (hd : DRA b v) (ez : z = xX0_tenth b) (eN : N = xX5_tenth v M) : BE 0 z (N 0) ∧ RI (N 0) ∧ z 0 16 = b 0 16 ∧ TF (M 0) (N 0) := by
  obtain ⟨hz, hk, hs⟩ := hr
  unfold xX0_tenth at ez
  unfold xX5_tenth at eN
  obtain ⟨x1, e1, ez⟩ := nm_el ez
  obtain ⟨x2, e2, ez⟩ := nm_el ez
  obtain ⟨M3, e3, ez⟩ := nm_el ez
  obtain ⟨M4, e4, ez⟩ := nm_el ez
  obtain ⟨M5, e5, ez⟩ := nm_el ez
  obtain ⟨v7, e7, ez⟩ := nm_el ez
  obtain ⟨x8, e8, ez⟩ := nm_el ez
  obtain ⟨M9, e9, ez⟩ := nm_el ez
  obtain ⟨M10, e10, ez⟩ := nm_el ez
  obtain ⟨M11, e11, ez⟩ := nm_el ez
  obtain ⟨M12, e12, ez⟩ := nm_el ez
  obtain ⟨w13, e13, ez⟩ := nm_el ez
  obtain ⟨M14, e14, ez⟩ := nm_el ez
  rw [e13] at e14
  obtain ⟨N1, f1, eN⟩ := nm_el eN
  obtain ⟨w2, f2, eN⟩ := nm_el eN
  obtain ⟨N3, f3, eN⟩ := nm_el eN
  rw [f2] at f3
  obtain ⟨ka, oa, fa⟩ := air_rel h hz hd hs.1 e1 e2 e3 e4 e5 e7 e8 e9 e10 rfl e11 e12 f1
  have rz1 : rz (N1 0) := rz_ex hz (fun j hj => fa j (by omega))
  have ks1 : KS (N1 0) := by
    unfold KS
    rw [fa 24 (by omega), fa 25 (by omega), fa 26 (by omega)]
    exact hk
  have st1 : STT (N1 0) := hs.fr (fun j hj => fa j (by omega))
  have c10 : M12 0 12 = N1 0 24 := by
    obtain ⟨-, ⟨-, -, -, -, -, -, -, -, -, g, -, -, -, -⟩, -, -⟩ := ka
    exact g
  have c13 : M12 0 13 = N1 0 25 + 1 := by
    obtain ⟨-, ⟨-, -, -, -, -, -, -, -, -, -, g, -, -, -⟩, -, -⟩ := ka
    exact g
  rw [c10] at e14
  have key : STP M12 M14 N3 ∧ KS1 (N3 0) ∧ (∀ j, j < 15 ∨ j = 22 ∨ 90 ≤ j → N3 0 j = N1 0 j) ∧ ((N3 0 23 = N1 0 23 ∧ ∀ j, 29 ≤ j → N3 0 j = N1 0 j) ∨ (N3 0 23 = N1 0 23 + 1 ∧ DRS (N1 0) (N3 0))) := by
    by_cases c2 : N1 0 24 = 2
    · have c3 : ¬ N1 0 24 = 3 := by rw [c2]; decide
      rw [if_pos c2, nm_eq] at e14
      rw [if_neg c3, if_pos c2] at f3
      obtain ⟨w1, w2⟩ := ks1.2 c2
      have c13i : (M12 0 13).toInt = (N1 0 25).toInt + 1 := by rw [c13, i_inc (by omega)]
      by_cases c4 : N1 0 25 = 4
      · rw [if_pos c4] at f3
        obtain ⟨u, g1, f3⟩ := nm_el f3
        obtain ⟨N10, g2, f3⟩ := nm_el f3
        have h5 : 5 ≤ M12 0 13 := by
          rw [Int32.le_iff_toInt_le, c13i, c4]
          decide
        obtain ⟨r1, r2, r3, r4, r5⟩ := nods_rel (M := sh 0 N1) ka rz1 h5 e14 g1
        have en : N3 0 = u 0 := by rw [f3, g2]; exact put_in (by decide) (by decide)
        unfold STP
        rw [en]
        exact ⟨r1, r2, fun j hj => r3 j (by omega), Or.inr ⟨r4, r5⟩⟩
      · rw [if_neg c4] at f3
        have h5 : ¬ 5 ≤ M12 0 13 := by
          rw [Int32.le_iff_toInt_le, c13i, show (5 : Int32).toInt = 5 from rfl]
          intro q
          apply c4
          apply Int32.toInt_inj.mp
          rw [show (4 : Int32).toInt = 4 from rfl]
          omega
        unfold xX0_tip at e14
        rw [if_neg h5] at e14
        rw [e14, f3]
        have c5 : (N1 0 25).toInt ≠ 4 := fun q => c4 (Int32.toInt_inj.mp (by rw [q]; rfl))
        refine ⟨⟨ka, rfl⟩, ⟨fun q => absurd q (by rw [c2]; decide), fun _ => ?_⟩, fun _ _ => rfl, Or.inl ⟨rfl, fun _ _ => rfl⟩⟩
        omega
    · rw [if_neg c2] at e14
      by_cases c3 : N1 0 24 = 3
      · rw [if_pos c3, nm_eq] at e14
        rw [if_pos c3] at f3
        obtain ⟨u, g1, f3⟩ := nm_el f3
        obtain ⟨N10, g2, f3⟩ := nm_el f3
        obtain ⟨r1, r2, r3⟩ := empties_rel (M := sh 0 N1) ka c3 e14 g1
        have en : N3 0 = u 0 := by rw [f3, g2]; exact put_in (by decide) (by decide)
        unfold STP
        rw [en]
        exact ⟨r1, r2, fun j hj => r3 j (by omega), Or.inl ⟨r3 23 (by decide), fun j hj => r3 j (by omega)⟩⟩
      · rw [if_neg c3, nm_eq] at e14
        rw [if_neg c3, if_neg c2] at f3
        obtain ⟨u, g1, f3⟩ := nm_el f3
        obtain ⟨N10, g2, f3⟩ := nm_el f3
        obtain ⟨r1, r2, r3⟩ := rises_rel (M := sh 0 N1) ka st1 ks1 c2 e14 g1
        have en : N3 0 = u 0 := by rw [f3, g2]; exact put_in (by decide) (by decide)
        unfold STP
        rw [en]
        exact ⟨r1, r2, fun j hj => r3 j (by omega), Or.inl ⟨r3 23 (by decide), fun j hj => r3 j (by omega)⟩⟩
  obtain ⟨⟨k1, k16⟩, k2, k3, k4⟩ := key
  obtain ⟨l1, l2, l3, l4, l5⟩ := last_rel k1 k2 ez eN
  have tf : TF (M 0) (N 0) := by
    refine ⟨fun j hj => ?_, ?_, ?_⟩
    · rw [l5 j (by omega), k3 j (by omega), fa j (by omega)]
    · rw [l4, k3 22 (by decide), fa 22 (by omega)]
    · rcases k4 with ⟨q1, q2⟩ | ⟨q1, q2⟩
      · exact Or.inl ⟨by rw [l5 23 (by decide), q1, fa 23 (by omega)], fun j hj => by rw [l5 j (by omega), q2 j hj, fa j (by omega)]⟩
      · exact Or.inr ⟨by rw [l5 23 (by decide), q1, fa 23 (by omega)], q2.fr (fa 22 (by omega)).symm (fun j hj => (fa j (by omega)).symm) (fun j hj => l5 j (by omega))⟩
  refine ⟨l1, ⟨rz_drs hz (tf.1 6 (by decide)) (tf.1 150 (by decide)) ?_, l2, hs.fr (fun j hj => tf.1 j (Or.inl hj))⟩, by rw [l3, k16, oa], tf⟩
  rcases tf.2.2 with ⟨-, q⟩ | ⟨-, q⟩
  · exact Or.inl (q 89 (by decide))
  · exact Or.inr q
