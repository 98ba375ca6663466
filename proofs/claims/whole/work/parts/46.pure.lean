/-! odds, goes -/
theorem odds_in {p : Int32} (h : p < 1 ∨ 9 < p) : xX5_isIn (p - 1) 9 = 0 := by
  unfold xX5_isIn
  have p1 := Int32.le_toInt p
  have p2 := Int32.toInt_lt p
  have t9 : (9 : Int32).toInt = 9 := rfl
  by_cases m : p.toInt = -2147483648
  · have e : p = -2147483648 := Int32.toInt_inj.mp (by rw [m]; decide +kernel)
    rw [e]
    decide +kernel
  · have e : (p - 1).toInt = p.toInt - 1 := i_sub (by rw [o32]; omega) (by rw [o32]; omega)
    by_cases c : p - 1 < 0
    · rw [if_pos c]
    · have c2 := i_lt.mp c
      rw [z32] at c2
      rw [if_neg c]
      rcases h with h | h
      · have h2 := Int32.lt_iff_toInt_lt.mp h
        rw [o32] at h2
        omega
      · have h2 := Int32.lt_iff_toInt_lt.mp h
        rw [t9] at h2
        rw [if_pos (by rw [Int32.le_iff_toInt_le, t9]; omega)]
theorem C_odds {T : Nat} {X R : St} {p0 p1 p2 p3 : Int32} {z y : Int32 × St} (h : REL T X R) (hm : MH X) (ez : z = xX4_odds X p0 p1 p2 p3) (ey : y = xX5_odds R p0 p1 p2 p3) : OUT T z y := by
  unfold xX4_odds at ez
  unfold xX5_odds at ey
  have t9 : (9 : Int32).toInt = 9 := rfl
  have out1 : (p0 < 1 ∨ 9 < p0) → OUT T z y := by
    intro q
    rw [odds_in q, if_pos rfl] at ey
    obtain ⟨w, ew, ey⟩ := nm_el ey
    rw [if_neg (by rw [ew]; decide), ew] at ey
    refine ref_out h rf1 ?_ ey
    by_cases c : p0 < 1
    · rw [if_pos c] at ez
      exact ez
    · have q2 := Int32.lt_iff_toInt_lt.mp (q.resolve_left c)
      rw [if_neg c, if_neg (by rw [i_le]; exact q2)] at ez
      exact ez
  by_cases c1 : p0 < 1
  · exact out1 (Or.inl c1)
  by_cases c9 : 9 < p0
  · exact out1 (Or.inr c9)
  clear out1
  have d1 := i_lt.mp c1
  have d9 := i_lt.mp c9
  rw [o32] at d1
  rw [t9] at d9
  obtain ⟨P, hP, hP2⟩ : ∃ P : Nat, p0 = nI P ∧ p0.toInt = P := ⟨p0.toInt.toNat, nIt (by omega), by omega⟩
  have i9 : xX5_isIn (p0 - 1) 9 = 1 := by
    obtain ⟨j, hj⟩ : ∃ j, P = j + 1 := ⟨P - 1, by omega⟩
    rw [hP, hj, nI_pred]
    exact isIn_1 (n := 9) (by omega) (by decide)
  rw [if_neg c1, if_pos (by rw [Int32.le_iff_toInt_le, t9]; omega)] at ez
  rw [i9, if_neg (by decide)] at ey
  have out2 : (p3 < 0 ∨ nI 2 ≤ p3) → OUT T z y := by
    intro q
    rw [show (2 : Int32) = nI 2 from rfl, isIn_0 q, if_pos rfl] at ey
    obtain ⟨w, ew, ey⟩ := nm_el ey
    rw [if_neg (by rw [ew]; decide), ew] at ey
    refine ref_out h rf2 ?_ ey
    by_cases c : p3 < 0
    · rw [if_pos c] at ez
      exact ez
    · have q2 := Int32.le_iff_toInt_le.mp (q.resolve_left c)
      rw [show (nI 2).toInt = 2 from rfl] at q2
      rw [if_neg c, if_neg (by rw [i_le, o32]; omega)] at ez
      exact ez
  rcases pk_ix p3 (n := 2) (by decide) with q | q | ⟨k, hk, q⟩
  · exact out2 (Or.inl q)
  · exact out2 (Or.inr q)
  · clear out2
    have ki : p3.toInt = k := by rw [q]; exact nI_toInt (by omega)
    have hp : p3 = 0 ∨ p3 = 1 := by
      have k2 : k = 0 ∨ k = 1 := by omega
      rcases k2 with k2 | k2
      · exact Or.inl (by rw [q, k2]; rfl)
      · exact Or.inr (by rw [q, k2]; rfl)
    have i2 : xX5_isIn p3 2 = 1 := by rw [q]; exact isIn_1 hk (by decide)
    rw [i2, if_neg (by decide)] at ey
    rw [if_neg (by rw [i_lt, z32]; omega), if_pos (by rw [Int32.le_iff_toInt_le, o32]; omega)] at ez
    unfold xX5_wrongSorts at ey
    obtain ⟨a, ea, ez⟩ := nm_el ez
    obtain ⟨b, eb, ez⟩ := nm_el ez
    obtain ⟨w, ew, ey⟩ := nm_el ey
    refine guard_rel h (ew.trans (two_g ea eb)) ez ey (fun ha hb ez ey => ?_)
    obtain ⟨z21, e21, ez⟩ := nm_el ez
    obtain ⟨M22, e22, ez⟩ := nm_el ez
    obtain ⟨x23, e23, ez⟩ := nm_el ez
    obtain ⟨v25, e25, ez⟩ := nm_el ez
    obtain ⟨y5, f5, ey⟩ := nm_el ey
    obtain ⟨N6, f6, ey⟩ := nm_el ey
    obtain ⟨x7, f7, ey⟩ := nm_el ey
    obtain ⟨B, s1, s2, s3, s4⟩ := sb_rel h hm e21 f5
    rw [← e22, ← f6] at s4
    rw [s1] at e23
    rw [s2] at f7
    rw [e23, hP] at e25
    rw [f7, hP] at ey
    have fin := s4.mono (show T ≤ T + 3000 by omega)
    have out3 : ∀ {u : Int32}, z = (u, M22) → y = (u, N6) → OUT T z y := by
      intro u q1 q2
      rw [q1, q2]
      exact ⟨rfl, fin⟩
    rcases odds_b P B with o | o
    · rw [o] at e25 ey
      rw [if_neg (by decide)] at e25
      rw [if_pos rfl] at ey
      rcases hp with hp | hp
      · rw [hp] at ey
        rw [if_pos hp, if_pos e25] at ez
        exact out3 ez ey
      · rw [hp] at ey
        rw [if_neg (by rw [hp]; decide), if_pos e25] at ez
        exact out3 ez ey
    · rw [o] at e25 ey
      rw [if_pos rfl] at e25
      rw [if_neg (by decide)] at ey
      have bi : (nI B).toInt.toNat = B := by rw [nI_toInt (by omega)]; rfl
      rw [bi, odds_o hp (B + 1) 0 (nI B) (by rw [bi]; omega), odds_c B s3] at ey
      rcases hp with hp | hp
      · rw [if_pos hp] at ey
        rw [if_pos hp, if_neg (by rw [e25]; decide)] at ez
        exact out3 ez ey
      · rw [if_neg (by rw [hp]; decide)] at ey
        rw [if_neg (by rw [hp]; decide), if_neg (by rw [e25]; decide), e23] at ez
        exact out3 ez ey
theorem vi {b i : Nat} (hb : b ≤ 5) (hi : i ≤ 20) : (nI i - nI b).toInt = (i : Int) - b := by
  have a1 : (nI i).toInt = i := nI_toInt (by omega)
  have a2 : (nI b).toInt = b := nI_toInt (by omega)
  rw [i_sub (by omega) (by omega), a1, a2]
theorem vi_s {b i : Nat} (hb : b ≤ 5) (hi : i ≤ 19) : nI i - nI b + 1 = nI (i + 1) - nI b := by
  apply Int32.toInt_inj.mp
  rw [i_inc (by rw [vi hb (by omega)]; omega), vi hb (by omega), vi hb (by omega)]
  omega
theorem vi_0 {b : Nat} (hb : b ≤ 5) : -(nI b) = nI 0 - nI b := by
  rw [show nI 0 = (0 : Int32) from rfl, Int32.zero_sub]
theorem inr {x lo hi : Int32} : (if x < lo then (0 : Int32) else (if hi < x then 0 else 1)) = 0 ↔ ¬ xX5_within x lo hi = 0 := by
  unfold xX5_within
  by_cases c : x < lo
  · have c2 := Int32.lt_iff_toInt_lt.mp c
    rw [if_pos c, if_neg (show ¬ lo ≤ x by rw [i_le]; exact c2)]
    decide
  · rw [if_neg c, if_pos (show lo ≤ x by rw [Int32.le_iff_toInt_le]; exact i_lt.mp c)]
    by_cases d : hi < x
    · have d2 := Int32.lt_iff_toInt_lt.mp d
      rw [if_pos d, if_neg (show ¬ x ≤ hi by rw [i_le]; exact d2)]
      decide
    · rw [if_neg d, if_pos (show x ≤ hi by rw [Int32.le_iff_toInt_le]; exact i_lt.mp d)]
      decide
theorem in_peg (x : Int32) : xX4_isInRange 1 x = 0 ↔ ¬ xX5_within x 1 99 = 0 := by
  unfold xX4_isInRange
  rw [show xX4_numberIn tLeast 1 = 1 from by decide +kernel, show xX4_numberIn tGreat 1 = 99 from by decide +kernel]
  exact inr
theorem in_stuff (x : Int32) : xX4_isInRange 2 x = 0 ↔ ¬ xX5_within x 10 99 = 0 := by
  unfold xX4_isInRange
  rw [show xX4_numberIn tLeast 2 = 10 from by decide +kernel, show xX4_numberIn tGreat 2 = 99 from by decide +kernel]
  exact inr
theorem goes_i {T n b : Nat} {p0 p2 v3 : Int32} (hb : b ≤ 5) (hn : p0.toInt = n) (hn3 : n ≤ 3000) : ∀ (q k : Nat) (X R : St) (i fit al : Nat), i + q = 2 * b + 1 → q < k → REL T X R → MH X → ∃ (X2 R2 : St) (fit2 : Nat), xX4_pairsThatNod_l16 k X p0 (nI b) (nI fit) v3 (nI i - nI b) = (X2, nI fit2) ∧ xX5_goes_l81 k R p0 (nI b) p2 (nI fit) (nI al) v3 (nI i - nI b) = (R2, nI fit2, nI (al + q)) ∧ fit2 ≤ fit + q ∧ REL T X2 R2 ∧ MH X2 := by
  intro q
  induction q with
  | zero =>
    intro k X R i fit al hi hk h hm
    obtain ⟨k', rfl⟩ : ∃ k', k = k' + 1 := ⟨k - 1, by omega⟩
    have bi : (nI b).toInt = b := nI_toInt (by omega)
    have c : nI b < nI i - nI b := by rw [Int32.lt_iff_toInt_lt, vi hb (by omega), bi]; omega
    rw [xX4_pairsThatNod_l16, xX5_goes_l81, if_pos c, if_pos c]
    exact ⟨X, R, fit, rfl, rfl, by omega, h, hm⟩
  | succ q ih =>
    intro k X R i fit al hi hk h hm
    obtain ⟨k', rfl⟩ : ∃ k', k = k' + 1 := ⟨k - 1, by omega⟩
    have bi : (nI b).toInt = b := nI_toInt (by omega)
    have c : ¬ nI b < nI i - nI b := by rw [i_lt, vi hb (by omega), bi]; omega
    rw [xX4_pairsThatNod_l16, xX5_goes_l81, if_neg c, if_neg c]
    have a1 : xX1_at 15 (sh 2 X) 1 = R 2 1 := at15 (b := sh 1 X) h.1.1.1 1 1 rfl (by decide)
    have a2 : xX1_at 15 (sh 2 X) 2 = R 2 2 := at15 (b := sh 1 X) h.1.1.1 2 2 rfl (by decide)
    obtain ⟨peg, ep⟩ : ∃ x, x = R 2 1 + v3 := ⟨_, rfl⟩
    obtain ⟨stuff, es⟩ : ∃ x, x = R 2 2 + (nI i - nI b) := ⟨_, rfl⟩
    obtain ⟨X2, e2⟩ : ∃ X2, X2 = xX4_freshWith X 1 peg := ⟨_, rfl⟩
    obtain ⟨X3, e3⟩ : ∃ X3, X3 = put 25 12 (xX0_with (sh 25 X2) 2 stuff) X2 := ⟨_, rfl⟩
    obtain ⟨z, ez⟩ : ∃ z, z = xX0_nodsWithin (sh 25 X3) p0 := ⟨_, rfl⟩
    obtain ⟨X4, e4⟩ : ∃ X4, X4 = put 25 12 z.2 X3 := ⟨_, rfl⟩
    obtain ⟨N31, f31⟩ : ∃ N, N = xX5_fresh R := ⟨_, rfl⟩
    obtain ⟨N32, f32⟩ : ∃ N, N = sa N31 4 (up (N31 4) 1 peg) := ⟨_, rfl⟩
    obtain ⟨N33, f33⟩ : ∃ N, N = sa N32 4 (up (N32 4) 2 stuff) := ⟨_, rfl⟩
    obtain ⟨y, ey⟩ : ∃ y, y = xX5_goesOn (N33 0) (sh 4 N33) p0 := ⟨_, rfl⟩
    obtain ⟨N35, f35⟩ : ∃ N, N = put 4 1 y.2 N33 := ⟨_, rfl⟩
    simp only [nm_eq]
    rw [a1, a2, ← ep, ← es, ← e2, ← e3, ← ez, ← e4, ← f31, ← f32, ← f33, ← ey, ← f35, vi_s hb (by omega), nI_1 al]
    have skip : ∃ (X2 R2 : St) (fit2 : Nat), xX4_pairsThatNod_l16 k' X p0 (nI b) (nI fit) v3 (nI (i + 1) - nI b) = (X2, nI fit2) ∧ xX5_goes_l81 k' R p0 (nI b) p2 (nI fit) (nI (al + 1)) v3 (nI (i + 1) - nI b) = (R2, nI fit2, nI (al + (q + 1))) ∧ fit2 ≤ fit + (q + 1) ∧ REL T X2 R2 ∧ MH X2 := by
      obtain ⟨A, B, f2, i1, i2, i3, i4, i5⟩ := ih k' X R (i + 1) fit (al + 1) (by omega) (by omega) h hm
      rw [show al + 1 + q = al + (q + 1) by omega] at i2
      exact ⟨A, B, f2, i1, i2, by omega, i4, i5⟩
    by_cases w1 : xX5_within peg 1 99 = 0
    · rw [if_neg (fun q => (in_peg peg).mp q w1), if_pos w1]
      by_cases w2 : xX5_within stuff 10 99 = 0
      · rw [if_neg (fun q => (in_stuff stuff).mp q w2), if_pos w2]
        obtain ⟨g1, g2⟩ := wi_rng rfl w2
        rw [show (10 : Int32).toInt = 10 from rfl] at g1
        rw [show (99 : Int32).toInt = 99 from rfl] at g2
        obtain ⟨r1, r2⟩ := fresh_row h.1.2.1.2.2.f f31
        have n32 : N32 4 = up (N31 4) 1 peg := by rw [f32, sa_eq]
        have n33 : N33 4 = up (N32 4) 2 stuff := by rw [f33, sa_eq]
        have q32 : FRS (up (R 2) 1 peg) (sh 4 N32 0) := by
          show FRS _ (N32 4)
          rw [n32]
          exact r1.up (by decide) (by decide)
        have q33 : FRS (up (up (R 2) 1 peg) 2 stuff) (sh 4 N33 0) := by
          show FRS _ (N33 4)
          rw [n33]
          exact q32.up (by decide) (by decide)
        have sv := sv_o (v := peg) (k := 1) h.1.2.1 (by decide) (by decide) (by decide) (by decide)
        have st : STT (up (up (R 2) 1 peg) 2 stuff) := by
          obtain ⟨s1, s2, s3, -, -⟩ := h.1.2.1.2.2
          unfold STT
          rw [up_ne (by decide), up_ne (by decide), up_ne (by decide), up_ne (by decide), up_eq]
          exact ⟨s1, s2, s3, by omega, g2⟩
        have ri := q33.ri (by rw [up_ne (by decide), up_ne (by decide)]; exact h.1.2.1.1.2.2) st
        have md1 := fresh_md h hm (p := 1) (k := 1) rfl (by decide) q32 (sv.ri q32) e2
        have md2 := md_with (Q2 := sh 4 N33) md1 (p := 2) (k := 2) rfl (by decide) n33 ri e3
        obtain ⟨u1, u2⟩ := md_wi md2 hn hn3 ez e4
        have nc : ∀ c, c ≠ 4 → N33 c = R c := fun c hc => by rw [f33, sa_ne hc, f32, sa_ne hc, r2 c hc]
        rw [nc 0 (by decide), goesOn_eq _ _ hn] at ey
        have y1 : y.1 = rIt (R 0) (sh 4 N33) n 0 23 := congrArg Prod.fst ey
        have fr : F4 R N35 := fun c hc => by rw [f35, put_out (by omega), nc c hc]
        rw [← y1] at u1
        rcases u1 with ⟨s, t⟩ | ⟨s, t⟩
        · rw [if_pos s, if_pos t, Int32.add_zero]
          obtain ⟨A, B, f2, i1, i2, i3, i4, i5⟩ := ih k' X4 N35 (i + 1) fit (al + 1) (by omega) (by omega) (h.fx u2 fr) u2.2
          rw [show al + 1 + q = al + (q + 1) by omega] at i2
          exact ⟨A, B, f2, i1, i2, by omega, i4, i5⟩
        · rw [if_neg (by rw [s]; decide), if_neg t, nI_1 fit]
          obtain ⟨A, B, f2, i1, i2, i3, i4, i5⟩ := ih k' X4 N35 (i + 1) (fit + 1) (al + 1) (by omega) (by omega) (h.fx u2 fr) u2.2
          rw [show al + 1 + q = al + (q + 1) by omega] at i2
          exact ⟨A, B, f2, i1, i2, by omega, i4, i5⟩
      · rw [if_pos ((in_stuff stuff).mpr w2), if_neg w2]
        exact skip
    · rw [if_pos ((in_peg peg).mpr w1), if_neg w1]
      exact skip
theorem goes_o {T n b : Nat} {p0 p2 : Int32} (hb : b ≤ 5) (hn : p0.toInt = n) (hn3 : n ≤ 3000) : ∀ (q k : Nat) (X R : St) (i fit al : Nat), i + q = 2 * b + 1 → q < k → REL T X R → MH X → al = (2 * b + 1) * i → fit ≤ al → ∃ (X2 R2 : St) (fit2 : Nat), xX4_pairsThatNod_l6 k X p0 (nI b) (nI fit) (nI i - nI b) = (nI fit2, X2) ∧ xX5_goes_l71 k R p0 (nI b) p2 (nI fit) (nI al) (nI i - nI b) = (if p2 = 0 then nI fit2 / xX5_common (nI ((2 * b + 1) * (2 * b + 1))) (nI fit2) else nI ((2 * b + 1) * (2 * b + 1)) / xX5_common (nI ((2 * b + 1) * (2 * b + 1))) (nI fit2), R2) ∧ fit2 ≤ (2 * b + 1) * (2 * b + 1) ∧ REL T X2 R2 := by
  intro q
  induction q with
  | zero =>
    intro k X R i fit al hi hk h hm ha hf
    obtain ⟨k', rfl⟩ : ∃ k', k = k' + 1 := ⟨k - 1, by omega⟩
    have bi : (nI b).toInt = b := nI_toInt (by omega)
    have c : nI b < nI i - nI b := by rw [Int32.lt_iff_toInt_lt, vi hb (by omega), bi]; omega
    have i2 : i = 2 * b + 1 := by omega
    rw [xX4_pairsThatNod_l6, xX5_goes_l71, if_pos c, if_pos c, nm_eq]
    rw [i2] at ha
    rw [ha]
    refine ⟨X, R, fit, rfl, ?_, by omega, h⟩
    by_cases p : p2 = 0
    · rw [if_pos p, if_pos p]
    · rw [if_neg p, if_neg p]
  | succ q ih =>
    intro k X R i fit al hi hk h hm ha hf
    obtain ⟨k', rfl⟩ : ∃ k', k = k' + 1 := ⟨k - 1, by omega⟩
    have bi : (nI b).toInt = b := nI_toInt (by omega)
    have c : ¬ nI b < nI i - nI b := by rw [i_lt, vi hb (by omega), bi]; omega
    rw [xX4_pairsThatNod_l6, xX5_goes_l71, if_neg c, if_neg c]
    have f : muE (-(nI b)) (nI b) + 1 = 2 * b + 2 := by
      unfold muE
      rw [vi_0 hb, vi hb (by omega), bi]
      omega
    simp only [nm_eq]
    obtain ⟨A, B, f2, i1, i2, i3, i4, i5⟩ := goes_i (T := T) (p2 := p2) (v3 := nI i - nI b) hb hn hn3 (2 * b + 1) (2 * b + 2) X R 0 fit al (by omega) (by omega) h hm
    rw [f, vi_0 hb, i1, i2, vi_s hb (by omega)]
    obtain ⟨A2, B2, f3, j1, j2, j3, j4⟩ := ih k' A B (i + 1) f2 (al + (2 * b + 1)) (by omega) (by omega) i4 i5 (by rw [ha, Nat.mul_add, Nat.mul_one]) (by omega)
    exact ⟨A2, B2, f3, j1, j2, j3, j4⟩
theorem cd_all : ∀ b, b < 6 → ∀ m, m < 122 → m ≤ (2 * b + 1) * (2 * b + 1) → xX4_commonDivisor (nI m) (nI ((2 * b + 1) * (2 * b + 1))) = nI (Nat.gcd m ((2 * b + 1) * (2 * b + 1))) := by decide +kernel
theorem C_goes {T : Nat} {X R : St} {p0 p1 p2 : Int32} {z y : Int32 × St} (h : REL T X R) (hm : MH X) (ez : z = xX4_goes X p0 p1 p2) (ey : y = xX5_goes R p0 p1 p2) : OUT T z y := by
  unfold xX4_goes at ez
  unfold xX5_goes at ey
  have out : (p2 < 0 ∨ nI 2 ≤ p2) → OUT T z y := by
    intro q
    rw [show (2 : Int32) = nI 2 from rfl, isIn_0 q, if_pos rfl] at ey
    refine ref_out h rf2 ?_ ey
    by_cases c : p2 < 0
    · rw [if_pos c] at ez
      exact ez
    · have q2 := Int32.le_iff_toInt_le.mp (q.resolve_left c)
      rw [show (nI 2).toInt = 2 from rfl] at q2
      rw [if_neg c, if_neg (by rw [i_le, o32]; omega)] at ez
      exact ez
  rcases pk_ix p2 (n := 2) (by decide) with q | q | ⟨k, hk, q⟩
  · exact out (Or.inl q)
  · exact out (Or.inr q)
  · clear out
    have ki : p2.toInt = k := by rw [q]; exact nI_toInt (by omega)
    have i2 : xX5_isIn p2 2 = 1 := by rw [q]; exact isIn_1 hk (by decide)
    rw [if_neg (by rw [i_lt, z32]; omega), if_pos (by rw [Int32.le_iff_toInt_le, o32]; omega)] at ez
    rw [i2, if_neg (by decide)] at ey
    obtain ⟨a, ea, ez⟩ := nm_el ez
    obtain ⟨b, eb, ez⟩ := nm_el ez
    obtain ⟨w, ew, ey⟩ := nm_el ey
    refine guard_rel h (ew.trans (two_g ea eb)) ez ey (fun ha hb ez ey => ?_)
    obtain ⟨k1, l1⟩ := two_a ea ha
    obtain ⟨k2, l2⟩ := two_a eb hb
    have k1 := i_lt.mp k1
    have k2 := i_lt.mp k2
    have l1 := Int32.le_iff_toInt_le.mp l1
    have l2 := Int32.le_iff_toInt_le.mp l2
    rw [o32] at k1
    rw [show (300 : Int32).toInt = 300 from rfl] at k2
    rw [z32] at l1
    rw [show (5 : Int32).toInt = 5 from rfl] at l2
    obtain ⟨n, hn⟩ : ∃ n : Nat, p0.toInt = n := ⟨p0.toInt.toNat, by omega⟩
    obtain ⟨B, hB, hB2⟩ : ∃ B : Nat, p1 = nI B ∧ p1.toInt = B := ⟨p1.toInt.toNat, nIt l1, by omega⟩
    have B5 : B ≤ 5 := by omega
    have bi : (nI B).toInt = B := nI_toInt (by omega)
    have f : muE (-(nI B)) (nI B) + 1 = 2 * B + 2 := by
      unfold muE
      rw [vi_0 B5, vi B5 (by omega), bi]
      omega
    rw [hB] at ez ey
    obtain ⟨z16, e16, ez⟩ := nm_el ez
    obtain ⟨M17, e17, ez⟩ := nm_el ez
    obtain ⟨x18, e18, ez⟩ := nm_el ez
    obtain ⟨x19, e19, ez⟩ := nm_el ez
    obtain ⟨x20, e20, ez⟩ := nm_el ez
    obtain ⟨v22, e22, ez⟩ := nm_el ez
    unfold xX4_pairsThatNod at e16
    rw [nm_eq, f, vi_0 B5] at e16
    rw [nm_eq, f, vi_0 B5] at ey
    obtain ⟨X2, R2, fit, g1, g2, g3, g4⟩ := goes_o (T := T) (p2 := p2) B5 hn (by omega) (2 * B + 1) (2 * B + 2) X R 0 0 0 (by omega) (by omega) h hm (by rw [Nat.mul_zero]) (Nat.le_refl _)
    have e16 := e16.trans g1
    have ey := ey.trans g2
    have m17 : M17 = X2 := by rw [e17, e16]
    have x18' : x18 = nI fit := by rw [e18, e16]
    have x19' : x19 = nI ((2 * B + 1) * (2 * B + 1)) := by
      rw [e19, show (2 : Int32) = nI 2 from rfl, pk_mul, nI_1, pk_mul]
    have all1 : (2 * B + 1) * (2 * B + 1) ≤ 121 := by
      have t : 2 * B + 1 ≤ 11 := by omega
      exact Nat.le_trans (Nat.mul_le_mul t t) (by decide)
    have all0 : 1 ≤ (2 * B + 1) * (2 * B + 1) := Nat.mul_pos (by omega) (by omega)
    rw [x18', x19', cd_all B (by omega) fit (by omega) g3] at e20
    generalize (2 * B + 1) * (2 * B + 1) = al at *
    have gp : 0 < Nat.gcd fit al := Nat.gcd_pos_of_pos_right _ all0
    have gl : Nat.gcd fit al ≤ al := Nat.gcd_le_right _ all0
    rw [e20, if_neg (nI_nle gp (by omega))] at ez
    have cm : xX5_common (nI al) (nI fit) = nI (Nat.gcd fit al) := by
      unfold xX5_common
      rw [nI_toInt (by omega), nI_toInt (by omega), Nat.gcd_comm]
      rfl
    rw [cm] at ey
    rw [ez, ey, m17]
    refine ⟨?_, g4.mono (by omega)⟩
    show v22 / nI (Nat.gcd fit al) = if p2 = 0 then nI fit / nI (Nat.gcd fit al) else nI al / nI (Nat.gcd fit al)
    rw [e22]
    by_cases p : p2 = 0
    · rw [if_pos p, if_pos p, x18']
    · rw [if_neg p, if_neg p, x19']
