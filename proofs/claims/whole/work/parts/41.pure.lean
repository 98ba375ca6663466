/-! what would be: fresh birds, run -/
def SV (k : Nat) (v : Int32) (r : Nat → Int32) : Prop := STT (up r k v) ∧ 1 ≤ (up r k v 6).toInt ∧ (up r k v 6).toInt ≤ 4
theorem sv_o {r : Nat → Int32} {k : Nat} {v : Int32} (h : RI r) (h0 : k ≠ 0) (h2 : k ≠ 2) (h6 : k ≠ 6) (h7 : k ≠ 7) : SV k v r := by
  obtain ⟨hz, -, hs⟩ := h
  unfold SV STT
  rw [up_ne (Ne.symm h0), up_ne (Ne.symm h2), up_ne (Ne.symm h6), up_ne (Ne.symm h7)]
  exact ⟨hs, hz.2.2⟩
theorem sv_6 {r : Nat → Int32} {v : Int32} (h : RI r) (h1 : 1 ≤ v.toInt) (h2 : v.toInt ≤ 4) : SV 6 v r := by
  obtain ⟨hz, -, hs⟩ := h
  unfold SV STT
  rw [up_ne (by decide), up_ne (by decide), up_ne (by decide), up_eq]
  exact ⟨hs, h1, h2⟩
theorem SV.f {r : Nat → Int32} {k : Nat} {v : Int32} (h : SV k v r) : 10 ≤ (up r k v 0).toInt ∧ (up r k v 0).toInt ≤ 99 := ⟨h.1.2.1, h.1.2.2.1⟩
theorem SV.ri {r q : Nat → Int32} {k : Nat} {v : Int32} (h : SV k v r) (hq : FRS (up r k v) q) : RI q := hq.ri h.2 h.1
/-- NODS of a fresh bird of settings r in n TENTHS -/
noncomputable def frow (r : Nat → Int32) : Nat → Int32 := fun j => if j < 16 then r j else if j < 18 then r 11 else if j = 18 then 500 else 0
noncomputable def fnods (r : Nat → Int32) (n : Nat) : Int32 := rIt (fun _ => -1) (fun _ => frow r) n 0 23
theorem frow_frs (r : Nat → Int32) : FRS r (frow r) := by
  unfold frow
  refine ⟨fun j hj => if_pos hj, rfl, rfl, rfl, fun j h1 h2 => ?_, rfl, rfl⟩
  show (if j < 16 then r j else if j < 18 then r 11 else if j = 18 then 500 else 0) = 0
  rw [if_neg (by omega), if_neg (by omega), if_neg (by omega)]
noncomputable def cBird (q : Nat → Int32) : St := fun c j => if c = 0 then (if j = 3 then q 15 else if j = 4 then q 16 else if j = 5 then q 17 else if j = 6 then q 18 else if j = 7 then q 19 else if j = 8 then q 20 else if j = 9 then q 21 else if j = 10 then q 22 else if j = 11 then q 23 else if j = 12 then q 24 else if j = 13 then q 25 else if j = 14 then q 26 else if j = 15 then q 28 else if j = 17 then q 27 else -1) else if c = 1 then 15 else if c = 2 then q j else 0
theorem cBird_be {q : Nat → Int32} (h1 : q 89 = 0) (h2 : q 150 = 0) : BE 0 (cBird q) q := by
  refine ⟨⟨rfl, fun j _ => rfl⟩, ?_, ⟨?_, ?_, ?_, fun j hj => ?_⟩, ⟨?_, fun j hj => ?_⟩⟩
  · unfold IN
    rw [Int32.add_zero]
    exact ⟨rfl, rfl, rfl, rfl, rfl, rfl, rfl, rfl, rfl, rfl, rfl, rfl, rfl, rfl⟩
  · rw [h2]; rfl
  · rw [h2]; rfl
  · rw [h2]; rfl
  · rw [h2, z32] at hj
    omega
  · rw [h1]; rfl
  · rw [h1, z32] at hj
    omega
theorem FRS.be {r q q2 : Nat → Int32} {b : St} (h : FRS r q) (h2 : FRS r q2) (hb : BE 0 b q) : BE 0 b q2 := by
  obtain ⟨w1, w2, w3, w4, w5, w6, w7⟩ := h
  obtain ⟨u1, u2, u3, u4, u5, u6, u7⟩ := h2
  have e : ∀ j, j < 29 → q2 j = q j := by
    intro j hj
    by_cases c : j < 16
    · rw [w1 j c, u1 j c]
    · by_cases c1 : j = 16
      · rw [c1, w2, u2]
      · by_cases c2 : j = 17
        · rw [c2, w3, u3]
        · by_cases c3 : j = 18
          · rw [c3, w4, u4]
          · rw [w5 j (by omega) (by omega), u5 j (by omega) (by omega)]
  obtain ⟨⟨s1, s2⟩, hin, ⟨k1, k2, k3, k4⟩, ⟨d1, d2⟩⟩ := hb
  refine ⟨⟨s1, fun j hj => ?_⟩, ?_, ⟨?_, ?_, ?_, fun j hj => ?_⟩, ⟨?_, fun j hj => ?_⟩⟩
  · rw [e j (by omega)]; exact s2 j hj
  · unfold IN
    rw [e 15 (by decide), e 16 (by decide), e 17 (by decide), e 18 (by decide), e 19 (by decide), e 20 (by decide), e 21 (by decide), e 22 (by decide), e 23 (by decide), e 24 (by decide), e 25 (by decide), e 26 (by decide), e 27 (by decide), e 28 (by decide)]
    exact hin
  · rw [u7, ← w7]; exact k1
  · rw [u7, ← w7]; exact k2
  · rw [u7, ← w7]; exact k3
  · rw [u7, z32] at hj
    omega
  · rw [u6, ← w6]; exact d1
  · rw [u6, z32] at hj
    omega
theorem fnods_eq {r : Nat → Int32} {Q : St} {v : Nat → Int32} (hq : FRS r (Q 0)) (hr : RI (Q 0)) (hf : RI (frow r)) (hv : v 7 < 0) (n : Nat) : rIt v Q n 0 23 = fnods r n := by
  have b1 : BE 0 (cBird (Q 0)) (Q 0) := by
    obtain ⟨-, -, -, -, -, w6, w7⟩ := hq
    exact cBird_be w6 w7
  have b2 := hq.be (frow_frs r) b1
  have x1 : RB (cBird (Q 0)) Q v := ⟨b1, hr, Or.inl ⟨rfl, hv⟩⟩
  have x2 : RB (cBird (Q 0)) (fun _ => frow r) (fun _ => -1) := ⟨b2, hf, Or.inl ⟨rfl, by decide⟩⟩
  have e1 := (run_rel x1 n).1.1.nods
  have e2 := (run_rel x2 n).1.1.nods
  unfold fnods
  rw [← e1, ← e2]
/-- one fresh bird, run to the end or to the first NOD, against the reference's -/
theorem S_q {T : Nat} {X R : St} {p v pn : Int32} {k n : Nat} {X2 : St} {y : Int32 × St} (h : REL T X R) (hm : MH X) (hp : p = nI k) (hk : k < 15) (hv : SV k v (R 2)) (hn : pn.toInt = n) (e2 : X2 = xX4_freshWith X p v) (ey : y = xX5_freshBy R p v pn) : ∃ Q : St, MD X Q (R 0) X2 ∧ FRS (up (R 2) k v) (Q 0) ∧ RI (Q 0) ∧ y.1 = rIt (R 0) Q n 0 23 ∧ y.2 4 = rIt (R 0) Q n 0 ∧ F4 R y.2 := by
  obtain ⟨Q, q1, q2, q3, q4⟩ := freshBy_eq hp hk hn hv.f ey
  exact ⟨Q, fresh_md h hm hp hk q1 (hv.ri q1) e2, q1, hv.ri q1, q2, q3, q4⟩
theorem S_in {T : Nat} {X R : St} {p v pn : Int32} {k n : Nat} {X2 X3 : St} {z y : Int32 × St} (h : REL T X R) (hm : MH X) (hp : p = nI k) (hk : k < 15) (hv : SV k v (R 2)) (hn : pn.toInt = n) (hn3 : n ≤ 3000) (e2 : X2 = xX4_freshWith X p v) (ez : z = xX0_nodsIn (sh 25 X2) pn) (e3 : X3 = put 25 12 z.2 X2) (ey : y = xX5_freshBy R p v pn) : z.1 = y.1 ∧ (0 ≤ y.1.toInt ∧ y.1.toInt ≤ 3000) ∧ REL T X3 y.2 ∧ MH X3 ∧ y.2 2 = R 2 := by
  obtain ⟨Q, q1, q2, q3, q4, q5, q6⟩ := S_q h hm hp hk hv hn e2 ey
  obtain ⟨m1, m2, m3⟩ := md_in q1 hn hn3 ez e3
  rw [← q4] at m1 m2
  exact ⟨m1, ⟨m2.1, by omega⟩, h.fx m3 q6, m3.2, q6 2 (by decide)⟩
theorem S_wi {T : Nat} {X R : St} {p v pn : Int32} {k n : Nat} {X2 X3 : St} {z y : Int32 × St} (h : REL T X R) (hm : MH X) (hp : p = nI k) (hk : k < 15) (hv : SV k v (R 2)) (hn : pn.toInt = n) (hn3 : n ≤ 3000) (e2 : X2 = xX4_freshWith X p v) (ez : z = xX0_nodsWithin (sh 25 X2) pn) (e3 : X3 = put 25 12 z.2 X2) (ey : y = xX5_freshBy R p v pn) : ((z.1 = 0 ∧ y.1 ≤ 0) ∨ (z.1 = 1 ∧ ¬ y.1 ≤ 0)) ∧ REL T X3 y.2 ∧ MH X3 ∧ y.2 2 = R 2 := by
  obtain ⟨Q, q1, q2, q3, q4, q5, q6⟩ := S_q h hm hp hk hv hn e2 ey
  obtain ⟨m1, m3⟩ := md_wi q1 hn hn3 ez e3
  rw [← q4] at m1
  exact ⟨m1, h.fx m3 q6, m3.2, q6 2 (by decide)⟩
theorem by_nods {T : Nat} {X R : St} {p v pn : Int32} {k n : Nat} {y : Int32 × St} (h : REL T X R) (hp : p = nI k) (hk : k < 15) (hv : SV k v (R 2)) (hn : pn.toInt = n) (ey : y = xX5_freshBy R p v pn) : y.1 = fnods (up (R 2) k v) n ∧ F4 R y.2 := by
  obtain ⟨Q, q1, q2, q3, q4⟩ := freshBy_eq hp hk hn hv.f ey
  exact ⟨q2.trans (fnods_eq q1 (hv.ri q1) (hv.ri (frow_frs _)) h.2.2.2.2.2 n), q4⟩
/-- bounds of two numbers -/
theorem two_g {P1 P2 P3 P4 : Prop} [Decidable P1] [Decidable P2] [Decidable P3] [Decidable P4] {a b : Int32} (ea : a = if P1 then 1 else (if P2 then 0 else 1)) (eb : b = if P3 then 1 else (if P4 then 0 else 1)) : (if P1 then (-4 : Int32) else (if P2 then (if P3 then (-6) else (if P4 then 0 else (-6))) else (-4))) = if a = 0 then (if b = 0 then 0 else -6) else -4 := by
  by_cases c1 : P1
  · rw [if_pos c1] at ea ⊢
    rw [ea, if_neg (by decide)]
  · rw [if_neg c1] at ea ⊢
    by_cases c2 : P2
    · rw [if_pos c2] at ea ⊢
      rw [ea, if_pos rfl]
      by_cases c3 : P3
      · rw [if_pos c3] at eb ⊢
        rw [eb, if_neg (by decide)]
      · rw [if_neg c3] at eb ⊢
        by_cases c4 : P4
        · rw [if_pos c4] at eb ⊢
          rw [eb, if_pos rfl]
        · rw [if_neg c4] at eb ⊢
          rw [eb, if_neg (by decide)]
    · rw [if_neg c2] at ea ⊢
      rw [ea, if_neg (by decide)]
theorem two_a {P1 P2 : Prop} [Decidable P1] [Decidable P2] {a : Int32} (ea : a = if P1 then 1 else (if P2 then 0 else 1)) (h : a = 0) : ¬ P1 ∧ P2 := by
  rw [ea] at h
  by_cases c1 : P1
  · rw [if_pos c1] at h
    exact absurd h (by decide)
  · rw [if_neg c1] at h
    by_cases c2 : P2
    · exact ⟨c1, c2⟩
    · rw [if_neg c2] at h
      exact absurd h (by decide)
theorem n3 {p : Int32} (h1 : (1 : Int32).toInt ≤ p.toInt) (h2 : p.toInt ≤ (3000 : Int32).toInt) : ∃ n : Nat, p.toInt = n ∧ n ≤ 3000 := by
  rw [o32] at h1
  rw [show (3000 : Int32).toInt = 3000 from rfl] at h2
  exact ⟨p.toInt.toNat, by omega, by omega⟩
theorem n1 {p : Int32} (h1 : (1 : Int32).toInt ≤ p.toInt) (h2 : p.toInt ≤ (1000 : Int32).toInt) : ∃ n : Nat, p.toInt = n ∧ n ≤ 3000 := by
  rw [o32] at h1
  rw [show (1000 : Int32).toInt = 1000 from rfl] at h2
  exact ⟨p.toInt.toNat, by omega, by omega⟩
theorem C_law {T : Nat} {X R : St} {p0 p1 : Int32} {z y : Int32 × St} (h : REL T X R) (hm : MH X) (ez : z = xX4_law X p0 p1) (ey : y = xX5_law R p0 p1) : OUT T z y := by
  unfold xX4_law at ez
  unfold xX5_law at ey
  obtain ⟨a, ea, ez⟩ := nm_el ez
  obtain ⟨b, eb, ez⟩ := nm_el ez
  obtain ⟨w, ew, ey⟩ := nm_el ey
  refine guard_rel h (ew.trans (two_g ea eb)) ez ey (fun ha hb ez ey => ?_)
  obtain ⟨-, l1⟩ := two_a ea ha
  obtain ⟨-, l2⟩ := two_a eb hb
  obtain ⟨n, hn, hn3⟩ := n3 (Int32.le_iff_toInt_le.mp l1) (Int32.le_iff_toInt_le.mp l2)
  obtain ⟨M11, e11, ez⟩ := nm_el ez
  obtain ⟨z12, e12, ez⟩ := nm_el ez
  obtain ⟨M13, e13, ez⟩ := nm_el ez
  obtain ⟨y7, f7, ey⟩ := nm_el ey
  rw [nm_eq] at ey
  obtain ⟨s1, s2, s3, s4, s5⟩ := S_in h hm (k := 8) rfl (by decide) (sv_o h.1.2.1 (by decide) (by decide) (by decide) (by decide)) hn hn3 e11 e12 e13 f7
  rw [ez, ey]
  exact ⟨s1, s3.mono (by omega)⟩
theorem C_larger {T : Nat} {X R : St} {p0 p1 : Int32} {z y : Int32 × St} (h : REL T X R) (hm : MH X) (ez : z = xX4_larger X p0 p1) (ey : y = xX5_larger R p0 p1) : OUT T z y := by
  unfold xX4_larger at ez
  unfold xX5_larger at ey
  obtain ⟨a, ea, ez⟩ := nm_el ez
  obtain ⟨b, eb, ez⟩ := nm_el ez
  obtain ⟨w, ew, ey⟩ := nm_el ey
  refine guard_rel h (ew.trans (two_g ea eb)) ez ey (fun ha hb ez ey => ?_)
  obtain ⟨k1, l1⟩ := two_a ea ha
  obtain ⟨k2, l2⟩ := two_a eb hb
  obtain ⟨n, hn, hn3⟩ := n3 (Int32.le_iff_toInt_le.mp l1) (Int32.le_iff_toInt_le.mp l2)
  obtain ⟨M11, e11, ez⟩ := nm_el ez
  obtain ⟨z12, e12, ez⟩ := nm_el ez
  obtain ⟨M13, e13, ez⟩ := nm_el ez
  obtain ⟨y7, f7, ey⟩ := nm_el ey
  rw [nm_eq] at ey
  obtain ⟨s1, s2, s3, s4, s5⟩ := S_in h hm (k := 6) rfl (by decide) (sv_6 h.1.2.1 (i_lt.mp k1) (i_lt.mp k2)) hn hn3 e11 e12 e13 f7
  rw [ez, ey]
  exact ⟨s1, s3.mono (by omega)⟩
theorem C_under {T : Nat} {X R : St} {z y : Int32 × St} (h : REL T X R) (hm : MH X) (ez : z = xX4_under X) (ey : y = xX5_under R) : OUT T z y := by
  unfold xX4_under at ez
  unfold xX5_under at ey
  obtain ⟨M11, e11, ez⟩ := nm_el ez
  obtain ⟨z12, e12, ez⟩ := nm_el ez
  obtain ⟨M13, e13, ez⟩ := nm_el ez
  obtain ⟨y7, f7, ey⟩ := nm_el ey
  rw [nm_eq] at ey
  obtain ⟨s1, s2, s3, s4, s5⟩ := S_in (n := 3000) h hm (k := 12) rfl (by decide) (sv_o h.1.2.1 (by decide) (by decide) (by decide) (by decide)) rfl (by decide) e11 e12 e13 f7
  rw [ez, ey]
  exact ⟨s1, s3.mono (by omega)⟩
/-- what a loop of fresh birds carries -/
def LO (T : Nat) (z y : Int32 × St) : Prop := z.1 = y.1 ∧ REL T z.2 y.2
theorem LO.out {T : Nat} {z y a b : Int32 × St} (h : LO T a b) (ez : z = a) (ey : y = b) : OUT T z y := by
  rw [ez, ey]
  exact ⟨h.1, h.2.mono (by omega)⟩
theorem stops_l {T n : Nat} {p : Int32} (hn : p.toInt = n) (hn3 : n ≤ 3000) : ∀ (k : Nat) (X R : St) (d : Nat), REL T X R → MH X → d ≤ 1000 → LO T (xX4_stops_l35 k X p (nI d)) (xX5_stops_l18 k R p (nI d)) := by
  intro k
  induction k with
  | zero =>
    intro X R d h hm hd
    rw [xX4_stops_l35, xX5_stops_l18]
    exact ⟨rfl, h⟩
  | succ k ih =>
    intro X R d h hm hd
    have di : (nI d).toInt = d := nI_toInt (by omega)
    rw [xX4_stops_l35, xX5_stops_l18]
    by_cases c : 100 ≤ d
    · rw [if_pos (show (99 : Int32) < nI d by rw [Int32.lt_iff_toInt_lt, di, show (99 : Int32).toInt = 99 from rfl]; omega), if_pos (show (100 : Int32) ≤ nI d by rw [Int32.le_iff_toInt_le, di, show (100 : Int32).toInt = 100 from rfl]; omega)]
      exact ⟨rfl, h⟩
    · rw [if_neg (show ¬ (99 : Int32) < nI d by rw [i_lt, di, show (99 : Int32).toInt = 99 from rfl]; omega), if_neg (show ¬ (100 : Int32) ≤ nI d by rw [i_le, di, show (100 : Int32).toInt = 100 from rfl]; omega)]
      obtain ⟨X2, e2⟩ : ∃ X2, X2 = xX4_freshWith X 8 (nI d) := ⟨_, rfl⟩
      obtain ⟨z, ez⟩ : ∃ z, z = xX0_nodsWithin (sh 25 X2) p := ⟨_, rfl⟩
      obtain ⟨X3, e3⟩ : ∃ X3, X3 = put 25 12 z.2 X2 := ⟨_, rfl⟩
      obtain ⟨y, ey⟩ : ∃ y, y = xX5_freshBy R 8 (nI d) p := ⟨_, rfl⟩
      obtain ⟨s1, s2, s3, s4⟩ := S_wi h hm (k := 8) rfl (by decide) (sv_o h.1.2.1 (by decide) (by decide) (by decide) (by decide)) hn hn3 e2 ez e3 ey
      simp only [nm_eq]
      rw [← e2, ← ez, ← e3, ← ey, nI_1]
      rcases s1 with ⟨a, b⟩ | ⟨a, b⟩
      · rw [if_pos a, if_pos b]
        exact ih X3 y.2 (d + 1) s2 s3 (by omega)
      · rw [if_neg (by rw [a]; decide), if_neg b]
        exact ⟨rfl, s2⟩
theorem C_stops {T : Nat} {X R : St} {p0 : Int32} {z y : Int32 × St} (h : REL T X R) (hm : MH X) (ez : z = xX4_stops X p0) (ey : y = xX5_stops R p0) : OUT T z y := by
  unfold xX4_stops at ez
  unfold xX5_stops xX5_wrongRun at ey
  obtain ⟨a, ea, ez⟩ := nm_el ez
  obtain ⟨b, eb, ez⟩ := nm_el ez
  obtain ⟨w, ew, ey⟩ := nm_el ey
  refine guard_rel h (ew.trans (within_g ea eb)) ez ey (fun ha hb ez ey => ?_)
  obtain ⟨n, hn, hn3⟩ := n3 (g_lo ea ha) (g_lo eb hb)
  rw [show muE 0 99 + 1 = mu 0 100 + 1 from by decide +kernel] at ez
  exact (stops_l hn hn3 (mu 0 100 + 1) X R 0 h hm (by decide)).out ez ey
/-! pegs -/
theorem pegs_l {T n : Nat} {p : Int32} (hn : p.toInt = n) (hn3 : n ≤ 3000) : ∀ (k : Nat) (X R : St) (d : Nat), REL T X R → MH X → d ≤ 100 → 100 - d < k → LO T (xX4_pegs_l52 k X p 0 (nI d)) (xX5_pegs_l39 k R p 0 (-9) (nI d)) := by
  intro k
  induction k with
  | zero => intro X R d h hm hd hk; exact absurd hk (Nat.not_lt_zero _)
  | succ k ih =>
    intro X R d h hm hd hk
    have di : (nI d).toInt = d := nI_toInt (by omega)
    rw [xX4_pegs_l52, xX5_pegs_l39]
    by_cases c : 100 ≤ d
    · rw [if_pos (show (99 : Int32) < nI d by rw [Int32.lt_iff_toInt_lt, di, show (99 : Int32).toInt = 99 from rfl]; omega), if_pos (show (100 : Int32) ≤ nI d by rw [Int32.le_iff_toInt_le, di, show (100 : Int32).toInt = 100 from rfl]; omega)]
      exact ⟨rfl, h⟩
    · rw [if_neg (show ¬ (99 : Int32) < nI d by rw [i_lt, di, show (99 : Int32).toInt = 99 from rfl]; omega), if_neg (show ¬ (100 : Int32) ≤ nI d by rw [i_le, di, show (100 : Int32).toInt = 100 from rfl]; omega), if_pos (show (-9 : Int32) < 0 by decide)]
      simp only [nm_eq]
      rw [if_pos trivial]
      obtain ⟨X2, e2⟩ : ∃ X2, X2 = xX4_freshWith X 1 (nI d) := ⟨_, rfl⟩
      obtain ⟨z, ez⟩ : ∃ z, z = xX0_nodsWithin (sh 25 X2) p := ⟨_, rfl⟩
      obtain ⟨X3, e3⟩ : ∃ X3, X3 = put 25 12 z.2 X2 := ⟨_, rfl⟩
      obtain ⟨y, ey⟩ : ∃ y, y = xX5_freshBy R 1 (nI d) p := ⟨_, rfl⟩
      obtain ⟨s1, s2, s3, s4⟩ := S_wi h hm (k := 1) rfl (by decide) (sv_o h.1.2.1 (by decide) (by decide) (by decide) (by decide)) hn hn3 e2 ez e3 ey
      rw [← e2, ← ez, ← e3, ← ey, nI_1]
      rcases s1 with ⟨a, b⟩ | ⟨a, b⟩
      · rw [if_pos a, if_pos b]
        exact ih X3 y.2 (d + 1) s2 s3 (by omega) (by omega)
      · rw [if_neg (by rw [a]; decide), if_neg b]
        obtain ⟨k', hk'⟩ : ∃ k', k = k' + 1 := ⟨k - 1, by omega⟩
        rw [hk', xX5_pegs_l39]
        by_cases c2 : (100 : Int32) ≤ nI (d + 1)
        · rw [if_pos c2]
          exact ⟨rfl, s2⟩
        · rw [if_neg c2, if_neg (show ¬ nI d < 0 from nI_pos (by omega)), if_neg (show ¬ (0 : Int32) = 1 by decide)]
          exact ⟨rfl, s2⟩
/-- the greatest peg of 1 .. m with which he NODS -/
noncomputable def gpeg (r : Nat → Int32) (n : Nat) : Nat → Int32
  | 0 => -9
  | m + 1 => if fnods (up r 1 (nI (m + 1))) n ≤ 0 then gpeg r n m else nI (m + 1)
theorem gpeg_s (r : Nat → Int32) (n m : Nat) : gpeg r n (m + 1) = if fnods (up r 1 (nI (m + 1))) n ≤ 0 then gpeg r n m else nI (m + 1) := by rw [gpeg]
theorem gpeg_0 (r : Nat → Int32) (n : Nat) : gpeg r n 0 = -9 := by rw [gpeg]
theorem pegs_d {T n : Nat} {p : Int32} (hn : p.toInt = n) (hn3 : n ≤ 3000) {r : Nat → Int32} (R : St) : ∀ (k : Nat) (X : St) (d : Nat), REL T X R → R 2 = r → MH X → 1 ≤ d → d ≤ 100 → 100 - d < k → ∃ X2, xX4_pegs_l52 k X p 1 (nI d) = (gpeg r n (100 - d), X2) ∧ REL T X2 R := by
  intro k
  induction k with
  | zero => intro X d _ _ _ _ _ hk; exact absurd hk (Nat.not_lt_zero _)
  | succ k ih =>
    intro X d h hr hm h1 hd hk
    have di : (nI d).toInt = d := nI_toInt (by omega)
    rw [xX4_pegs_l52]
    by_cases c : 100 ≤ d
    · rw [if_pos (show (99 : Int32) < nI d by rw [Int32.lt_iff_toInt_lt, di, show (99 : Int32).toInt = 99 from rfl]; omega)]
      refine ⟨X, ?_, h⟩
      rw [show 100 - d = 0 by omega, gpeg_0]
    · rw [if_neg (show ¬ (99 : Int32) < nI d by rw [i_lt, di, show (99 : Int32).toInt = 99 from rfl]; omega)]
      simp only [nm_eq]
      obtain ⟨m, hm2⟩ : ∃ m, 100 - d = m + 1 := ⟨99 - d, by omega⟩
      have e100 : (100 : Int32) - nI d = nI (m + 1) := by
        rw [show (100 : Int32) = nI 100 from rfl, pk_sub (by omega), hm2]
      rw [if_neg (show ¬ (1 : Int32) = 0 by decide), e100]
      obtain ⟨X2, e2⟩ : ∃ X2, X2 = xX4_freshWith X 1 (nI (m + 1)) := ⟨_, rfl⟩
      obtain ⟨z, ez⟩ : ∃ z, z = xX0_nodsWithin (sh 25 X2) p := ⟨_, rfl⟩
      obtain ⟨X3, e3⟩ : ∃ X3, X3 = put 25 12 z.2 X2 := ⟨_, rfl⟩
      obtain ⟨y, ey⟩ : ∃ y, y = xX5_freshBy R 1 (nI (m + 1)) p := ⟨_, rfl⟩
      have sv := sv_o (v := nI (m + 1)) (k := 1) h.1.2.1 (by decide) (by decide) (by decide) (by decide)
      obtain ⟨s1, s2, s3, s4⟩ := S_wi h hm (k := 1) rfl (by decide) sv hn hn3 e2 ez e3 ey
      obtain ⟨w1, w2⟩ := by_nods h (k := 1) rfl (by decide) sv hn ey
      have s2' : REL T X3 R := s2.fr (fun _ _ => rfl) (fun c hc => (w2 c (by omega)).symm) (fun j _ => by rw [w2 0 (by decide)])
      rw [w1, hr] at s1
      rw [← e2, ← ez, ← e3, nI_1, hm2, gpeg_s]
      rcases s1 with ⟨a, b⟩ | ⟨a, b⟩
      · rw [if_pos a, if_pos b]
        have i := ih X3 (d + 1) s2' hr s3 (by omega) (by omega) (by omega)
        rw [show 100 - (d + 1) = m by omega] at i
        exact i
      · rw [if_neg (by rw [a]; decide), if_neg b]
        exact ⟨X3, rfl, s2'⟩
theorem pegs_u {T n : Nat} {p : Int32} (hn : p.toInt = n) {r : Nat → Int32} (X : St) : ∀ (k : Nat) (R : St) (d : Nat), REL T X R → R 2 = r → d ≤ 99 → 99 - d < k → ∃ R2, xX5_pegs_l39 k R p 1 (gpeg r n d) (nI (d + 1)) = (gpeg r n 99, R2) ∧ REL T X R2 := by
  intro k
  induction k with
  | zero => intro R d _ _ _ hk; exact absurd hk (Nat.not_lt_zero _)
  | succ k ih =>
    intro R d h hr hd hk
    have di : (nI (d + 1)).toInt = (d + 1 : Nat) := nI_toInt (by omega)
    rw [xX5_pegs_l39]
    by_cases c : 100 ≤ d + 1
    · rw [if_pos (show (100 : Int32) ≤ nI (d + 1) by rw [Int32.le_iff_toInt_le, di, show (100 : Int32).toInt = 100 from rfl]; omega)]
      refine ⟨R, ?_, h⟩
      rw [show d = 99 by omega]
    · rw [if_neg (show ¬ (100 : Int32) ≤ nI (d + 1) by rw [i_le, di, show (100 : Int32).toInt = 100 from rfl]; omega), if_pos (show (1 : Int32) = 1 from rfl)]
      simp only [nm_eq]
      obtain ⟨y, ey⟩ : ∃ y, y = xX5_freshBy R 1 (nI (d + 1)) p := ⟨_, rfl⟩
      have sv := sv_o (v := nI (d + 1)) (k := 1) h.1.2.1 (by decide) (by decide) (by decide) (by decide)
      obtain ⟨w1, w2⟩ := by_nods h (k := 1) rfl (by decide) sv hn ey
      have h2 : REL T X y.2 := h.fr (fun _ _ => rfl) (fun c hc => w2 c (by omega)) (fun j _ => by rw [w2 0 (by decide)])
      have i := ih y.2 (d + 1) h2 ((w2 2 (by decide)).trans hr) (by omega) (by omega)
      rw [hr] at w1
      rw [← ey, nI_1, w1]
      rw [gpeg_s] at i
      by_cases b : fnods (up r 1 (nI (d + 1))) n ≤ 0
      · rw [if_pos b] at i ⊢
        rw [ite_self]
        exact i
      · rw [if_neg b] at i ⊢
        rw [ite_self]
        exact i
theorem pegs_g {p q a b : Int32} (hq : 0 ≤ q.toInt ∧ q.toInt < 2) (ea : a = if 1 ≤ p then 0 else 1) (eb : b = if p ≤ 1000 then 0 else 1) : (if xX5_isIn q 2 = 0 then (-2 : Int32) else xX5_within p 1 1000) = if a = 0 then (if b = 0 then 0 else -6) else -4 := by
  have e : xX5_isIn q 2 = 1 := by
    obtain ⟨j, hj, e⟩ : ∃ j : Nat, j < 2 ∧ q = nI j := ⟨q.toInt.toNat, by omega, nIt hq.1⟩
    rw [e]
    exact isIn_1 hj (by decide)
  rw [e, if_neg (by decide)]
  exact within_g ea eb
theorem C_pegs {T : Nat} {X R : St} {p0 p1 : Int32} {z y : Int32 × St} (h : REL T X R) (hm : MH X) (ez : z = xX4_pegs X p0 p1) (ey : y = xX5_pegs R p0 p1) : OUT T z y := by
  unfold xX4_pegs at ez
  unfold xX5_pegs at ey
  have out : (p1 < 0 ∨ nI 2 ≤ p1) → OUT T z y := by
    intro q
    rw [show (2 : Int32) = nI 2 from rfl, isIn_0 q, if_pos rfl] at ey
    obtain ⟨w, ew, ey⟩ := nm_el ey
    rw [if_neg (by rw [ew]; decide), ew] at ey
    refine ref_out h rf2 ?_ ey
    by_cases c : p1 < 0
    · rw [if_pos c] at ez
      exact ez
    · have q2 := Int32.le_iff_toInt_le.mp (q.resolve_left c)
      rw [show (nI 2).toInt = 2 from rfl] at q2
      rw [if_neg c, if_neg (by rw [i_le, o32]; omega)] at ez
      exact ez
  rcases pk_ix p1 (n := 2) (by decide) with q | q | ⟨k, hk, q⟩
  · exact out (Or.inl q)
  · exact out (Or.inr q)
  · have ki : p1.toInt = k := by rw [q]; exact nI_toInt (by omega)
    rw [if_neg (by rw [i_lt, z32]; omega), if_pos (by rw [Int32.le_iff_toInt_le, o32]; omega)] at ez
    obtain ⟨a, ea, ez⟩ := nm_el ez
    obtain ⟨b, eb, ez⟩ := nm_el ez
    obtain ⟨w, ew, ey⟩ := nm_el ey
    refine guard_rel h (ew.trans (pegs_g (by omega) ea eb)) ez ey (fun ha hb ez ey => ?_)
    obtain ⟨n, hn, hn3⟩ := n1 (g_lo ea ha) (g_lo eb hb)
    rw [nm_eq] at ey
    have hp : p1 = 0 ∨ p1 = 1 := by
      have k2 : k = 0 ∨ k = 1 := by omega
      rcases k2 with k2 | k2
      · exact Or.inl (by rw [q, k2]; rfl)
      · exact Or.inr (by rw [q, k2]; rfl)
    have f1 : muE 1 99 + 1 = 100 := by decide +kernel
    have f2 : mu 1 100 + 1 = 100 := by decide +kernel
    rw [f1] at ez
    rw [f2] at ey
    obtain ⟨K, hK⟩ : ∃ K, K = 100 := ⟨_, rfl⟩
    rw [← hK] at ez ey
    rcases hp with hp | hp
    · rw [hp] at ez ey
      exact (pegs_l hn hn3 K X R 1 h hm (by decide) (by omega)).out ez ey
    · rw [hp] at ez ey
      obtain ⟨X2, x1, x2⟩ := pegs_d hn hn3 R K X 1 h rfl hm (by decide) (by decide) (by omega)
      obtain ⟨R2, y1, y2⟩ := pegs_u (r := R 2) hn X2 K R 0 x2 rfl (by decide) (by omega)
      rw [gpeg_0] at y1
      exact LO.out (a := (gpeg (R 2) n 99, X2)) (b := (gpeg (R 2) n 99, R2)) ⟨rfl, y2⟩ (ez.trans x1) (ey.trans y1)
