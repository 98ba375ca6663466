/-! THE CALLS, one by one: first those that are told, and those that ask -/
theorem abs_same (d : Int32) : (if 0 ≤ d then d else 0 - d) = xX5_amount d := by
  unfold xX5_amount
  rw [Int32.zero_sub]
theorem abs_neg (d : Int32) : xX5_amount (-d) = xX5_amount d := by
  unfold xX5_amount
  rw [Int32.neg_neg]
  have h1 := Int32.le_toInt d
  by_cases m : d.toInt = -2147483648
  · have e : -d = d := by
      have e2 : d = -2147483648 := Int32.toInt_inj.mp (by rw [m]; decide +kernel)
      rw [e2]
      decide +kernel
    rw [e, ite_self]
  · have e : (-d).toInt = -d.toInt := i_neg (by omega)
    by_cases c : 0 ≤ d
    · have c2 := Int32.le_iff_toInt_le.mp c
      rw [z32] at c2
      rw [if_pos c]
      by_cases c3 : 0 ≤ -d
      · have c4 := Int32.le_iff_toInt_le.mp c3
        rw [z32, e] at c4
        rw [if_pos c3]
        apply Int32.toInt_inj.mp
        rw [e]
        omega
      · rw [if_neg c3]
    · have c2 := i_le.mp c
      rw [z32] at c2
      rw [if_neg c, if_pos (by rw [Int32.le_iff_toInt_le, z32, e]; omega)]
theorem abs_sym (a b : Int32) : (if 0 ≤ a - b then a - b else 0 - (a - b)) = xX5_amount (b - a) := by
  rw [abs_same, ← abs_neg, Int32.neg_sub]
theorem sh1_sa {X : St} {F : Nat → Int32} (c : Nat) : sh 1 (sa X 1 F) c = sa (sh 1 X) 0 F c := by
  by_cases q : c = 0
  · subst q
    show sa X 1 F 1 = _
    rw [sa_eq, sa_eq]
  · show sa X 1 F (1 + c) = _
    rw [sa_ne (by omega), sa_ne q]
    rfl
theorem KS.ex {r q : Nat → Int32} (h : KS r) (e24 : q 24 = r 24) (e25 : q 25 = r 25) (e26 : q 26 = r 26) : KS q := by
  unfold KS
  rw [e24, e25, e26]
  exact h
theorem RI.ex {r q : Nat → Int32} (h : RI r) (e : ∀ j, (j < 15 ∨ (24 ≤ j ∧ j ≤ 26) ∨ 28 < j) → q j = r j) : RI q :=
  ⟨rz_ex h.1 (fun j hj => e j (by omega)), h.2.1.ex (e 24 (by omega)) (e 25 (by omega)) (e 26 (by omega)), h.2.2.fr (fun j hj => e j (by omega))⟩
theorem DB.ex {T : Nat} {r q : Nat → Int32} (h : DB T r) (hz : rz r) (e : ∀ j, (j = 22 ∨ 28 < j) → q j = r j) : DB T q := by
  obtain ⟨a, b, c⟩ := h
  refine ⟨by rw [e 22 (by omega)]; exact a, by rw [e 22 (by omega)]; exact b, fun j hj => ?_⟩
  rw [e 89 (by omega)] at hj
  rw [e _ (by omega)]
  exact c j hj
/-- the true bird changed, alike on both sides -/
theorem REL.bird {T T2 : Nat} {X X2 R R2 : St} (h : REL T X R) (hT : T ≤ T2) (hb : GB T2 (sh 1 X2) (R2 2)) (hX : ∀ c, (c = 0 ∨ (13 ≤ c ∧ c < 25) ∨ 49 ≤ c) → X2 c = X c) (hR : ∀ c, (c = 1 ∨ c = 3 ∨ c = 7 ∨ c = 9) → R2 c = R c) (h0 : ∀ j, (j = 6 ∨ j = 7 ∨ j = 10 ∨ j = 13) → R2 0 j = R 0 j) : REL T2 X2 R2 := by
  obtain ⟨h1, h2, ⟨t1, t2⟩, ⟨r1, r2⟩, ⟨f1, f2⟩, h6⟩ := h
  refine ⟨hb, ?_, ⟨?_, fun j hj => ?_⟩, ⟨?_, fun j hj => ?_⟩, ⟨?_, fun j hj => ?_⟩, ?_⟩
  · unfold IMG
    rw [hX 0 (by decide), h0 6 (by decide), hR 3 (by decide)]
    rcases h2 with h2 | ⟨a, b, c⟩
    · exact Or.inl h2
    · exact Or.inr ⟨a, b, (c.ext (fun c hc => hX (13 + c) (by omega))).mono hT⟩
  · rw [hX 50 (by decide), h0 10 (by decide)]; exact t1
  · rw [h0 10 (by decide)] at hj
    rw [hX 51 (by decide), hR 7 (by decide)]; exact t2 j hj
  · rw [hX 52 (by decide), h0 13 (by decide)]; exact r1
  · rw [h0 13 (by decide)] at hj
    rw [hX 53 (by decide), hR 9 (by decide)]; exact r2 j hj
  · rw [hX 54 (by decide)]; exact f1
  · rw [hX 55 (by decide), hR 1 (by decide)]; exact f2 j hj
  · rw [h0 7 (by decide)]; exact h6
theorem REL.rb {T : Nat} {X R : St} (h : REL T X R) : RB (sh 1 X) (sh 2 R) (R 0) := ⟨h.1.1, h.1.2.1, Or.inl ⟨h.1.2.2.1, h.2.2.2.2.2⟩⟩
/-! set -/
theorem num_eq (f : Nat → Int32) {k : Nat} (hk : k < 15) : xX4_numberIn f (nI k) = f k := by
  have ki : (nI k).toInt = k := nI_toInt (by omega)
  unfold xX4_numberIn
  rw [if_neg (by rw [i_lt, z32, ki]; omega), if_neg (by rw [i_le, ki, show (15 : Int32).toInt = 15 from rfl]; omega), tnc, ki]
  rfl
theorem least_eq : ∀ k : Nat, k < 15 → xX5_leastOf (nI k) = tLeast k := by decide +kernel
theorem most_eq : ∀ k : Nat, k < 15 → xX5_mostOf (nI k) = tGreat k := by decide +kernel
theorem RI.up {r : Nat → Int32} {k : Nat} {v : Int32} (h : RI r) (hk : k < 15) (h1 : (tLeast k).toInt ≤ v.toInt) (h2 : v.toInt ≤ (tGreat k).toInt) : RI (up r k v) := by
  obtain ⟨hz, hk2, h7, h0l, h0g, h2l, h2g⟩ := h
  refine ⟨rz_up hz (by omega) (by omega) (fun q => ?_), hk2.ex (up_ne (by omega)) (up_ne (by omega)) (up_ne (by omega)), ?_, ?_, ?_, ?_, ?_⟩
  · subst q
    rw [show (tLeast 6).toInt = 1 from by decide +kernel] at h1
    rw [show (tGreat 6).toInt = 4 from by decide +kernel] at h2
    exact ⟨h1, h2⟩
  · by_cases q : k = 7
    · subst q
      rw [show (tLeast 7).toInt = 0 from by decide +kernel] at h1
      rw [show (tGreat 7).toInt = 1 from by decide +kernel] at h2
      rw [up_eq]
      by_cases w : v.toInt = 0
      · exact Or.inl (Int32.toInt_inj.mp w)
      · exact Or.inr (Int32.toInt_inj.mp (by rw [o32]; omega))
    · rw [up_ne (by omega)]; exact h7
  all_goals by_cases q0 : k = 0
  all_goals first
    | (subst q0
       rw [show (tLeast 0).toInt = 10 from by decide +kernel] at h1
       rw [show (tGreat 0).toInt = 99 from by decide +kernel] at h2
       first
         | (rw [up_eq]; omega)
         | (rw [up_ne (by decide)]; omega))
    | (by_cases q2 : k = 2
       · subst q2
         rw [show (tLeast 2).toInt = 10 from by decide +kernel] at h1
         rw [show (tGreat 2).toInt = 99 from by decide +kernel] at h2
         first
           | (rw [up_eq]; omega)
           | (rw [up_ne (by decide)]; omega)
       · rw [up_ne (by omega)]; omega)
/-- a setting of the true bird put on both sides -/
theorem set_rel {T : Nat} {X R X2 R2 : St} {p v : Int32} {k : Nat} (h : REL T X R) (hp : p = nI k) (hk : k < 15) (h1 : (tLeast k).toInt ≤ v.toInt) (h2 : v.toInt ≤ (tGreat k).toInt) (eX : X2 = put 2 2 (xX1_put 15 (sh 2 X) p v) X) (eR : R2 = sa R 2 (up (R 2) k v)) : REL T X2 R2 := by
  have h0 := h
  obtain ⟨⟨⟨⟨s1, s2⟩, hin, ⟨k1, k2, k3, k4⟩, ⟨d1, d2⟩⟩, hri, h16, hdb⟩, -⟩ := h
  have pk : p.toInt = k := by rw [hp]; exact nI_toInt (by omega)
  have pn : p.toNatClampNeg = k := by rw [tnc, pk]; rfl
  obtain ⟨u, eu⟩ : ∃ u, u = xX1_put 15 (sh 2 X) p v := ⟨_, rfl⟩
  rw [← eu] at eX
  have e1 : sh 2 X 0 1 = 15 := s1
  unfold xX1_put at eu
  rw [if_neg (by rw [i_lt, z32, pk]; omega), e1, if_neg (by rw [i_le, pk, show (15 : Int32).toInt = 15 from rfl]; omega), nm_eq, pn] at eu
  have x : ∀ c, c ≠ 3 → X2 c = X c := by
    intro c hc
    by_cases q : c = 2
    · subst q
      rw [eX]
      refine (put_in (by decide) (by decide)).trans ?_
      rw [eu]
      exact sa_ne (by decide)
    · rw [eX, put_out (by omega)]
  have x3 : X2 3 = up (X 3) k v := by
    rw [eX]
    refine (put_in (by decide) (by decide)).trans ?_
    rw [eu]
    exact sa_eq _ _ _
  have r2 : R2 2 = up (R 2) k v := by rw [eR, sa_eq]
  have rc : ∀ c, c ≠ 2 → R2 c = R c := fun c hc => by rw [eR, sa_ne hc]
  have rj : ∀ j, 15 ≤ j → R2 2 j = R 2 j := fun j hj => by rw [r2, up_ne (by omega)]
  have xs : ∀ c, c ≠ 2 → sh 1 X2 c = sh 1 X c := fun c hc => x (1 + c) (by omega)
  refine h0.bird (Nat.le_refl _) ⟨⟨⟨?_, fun j hj => ?_⟩, ?_, ⟨?_, ?_, ?_, fun j hj => ?_⟩, ⟨?_, fun j hj => ?_⟩⟩, ?_, ?_, ?_⟩ (fun c hc => x c (by omega)) (fun c hc => rc c (by omega)) (fun j _ => by rw [rc 0 (by decide)])
  · rw [xs 1 (by decide)]; exact s1
  · rw [r2]
    show X2 3 j = _
    rw [x3, up_get, up_get, ← s2 j hj]
    rfl
  · unfold IN
    rw [xs 0 (by decide), rj 15 (by decide), rj 16 (by decide), rj 17 (by decide), rj 18 (by decide), rj 19 (by decide), rj 20 (by decide), rj 21 (by decide), rj 22 (by decide), rj 23 (by decide), rj 24 (by decide), rj 25 (by decide), rj 26 (by decide), rj 27 (by decide), rj 28 (by decide)]
    exact hin
  · rw [xs 4 (by decide), rj 150 (by decide)]; exact k1
  · rw [xs 6 (by decide), rj 150 (by decide)]; exact k2
  · rw [xs 8 (by decide), rj 150 (by decide)]; exact k3
  · rw [rj 150 (by decide)] at hj
    rw [xs 5 (by decide), xs 7 (by decide), xs 9 (by decide), rj _ (by omega), rj _ (by omega), rj _ (by omega)]
    exact k4 j hj
  · rw [xs 10 (by decide), rj 89 (by decide)]; exact d1
  · rw [rj 89 (by decide)] at hj
    rw [xs 11 (by decide), rj _ (by omega)]
    exact d2 j hj
  · rw [r2]; exact hri.up hk h1 h2
  · rw [xs 0 (by decide)]; exact h16
  · exact hdb.ex hri.1 (fun j hj => rj j (by omega))
theorem isIn_0 {p : Int32} {n : Nat} (h : p < 0 ∨ nI n ≤ p) : xX5_isIn p (nI n) = 0 := by
  unfold xX5_isIn
  by_cases c : p < 0
  · rw [if_pos c]
  · rw [if_neg c, if_pos (h.resolve_left c)]
theorem isIn_1 {j n : Nat} (h : j < n) (hn : n < 2 ^ 31) : xX5_isIn (nI j) (nI n) = 1 := by
  unfold xX5_isIn
  rw [if_neg (nI_pos (by omega)), if_neg (nI_ge h hn)]
theorem C_set {T : Nat} {X R : St} {p0 p1 : Int32} {z y : Int32 × St} (h : REL T X R) (ez : z = xX4_set X p0 p1) (ey : y = xX5_set R p0 p1) : OUT T z y := by
  unfold xX4_set at ez
  unfold xX5_set at ey
  rw [show (15 : Int32) = nI 15 from rfl] at ez ey
  have out : (p0 < 0 ∨ nI 15 ≤ p0) → OUT T z y := by
    intro q
    rw [isIn_0 q, if_pos rfl] at ey
    refine ref_out h rf2 ?_ ey
    by_cases c : p0 < 0
    · rw [if_pos c] at ez
      exact ez
    · have q2 := Int32.le_iff_toInt_le.mp (q.resolve_left c)
      rw [if_neg c, if_neg (by rw [i_lt]; exact q2)] at ez
      exact ez
  rcases pk_ix p0 (n := 15) (by decide) with q | q | ⟨k, hk, q⟩
  · exact out (Or.inl q)
  · exact out (Or.inr q)
  · subst q
    rw [if_neg (nI_pos (by omega)), if_pos (nI_lt hk (by decide)), num_eq _ hk, num_eq _ hk] at ez
    rw [isIn_1 hk (by decide), if_neg (by decide), least_eq k hk, most_eq k hk] at ey
    obtain ⟨a, ea, ez⟩ := nm_el ez
    obtain ⟨b, eb, ez⟩ := nm_el ez
    obtain ⟨w, ew, ey⟩ := nm_el ey
    have hw := ew.trans (within_g ea eb)
    refine guard_rel h hw ez ey (fun ha hb ez ey => ?_)
    have l1 := g_lo ea ha
    have l2 := g_lo eb hb
    obtain ⟨x14, e14, ez⟩ := nm_el ez
    obtain ⟨z15, e15, ez⟩ := nm_el ez
    obtain ⟨M16, e16, ez⟩ := nm_el ez
    obtain ⟨y4, f4, ey⟩ := nm_el ey
    rw [nm_eq] at ey
    unfold xX5_becomes at f4
    obtain ⟨x1, g1, f4⟩ := nm_el f4
    obtain ⟨M2, g2, f4⟩ := nm_el f4
    have kn : (nI k).toNatClampNeg = k := nI_clamp (by omega)
    rw [kn] at g1 g2
    rw [e15] at e16
    have r := set_rel h rfl hk l1 l2 e16 g2
    have e : x14 = x1 := by
      rw [e14, g1]
      exact at15 (b := sh 1 X) h.1.1.1 (nI k) k rfl hk
    rw [ez, ey, f4]
    exact ⟨e, r.mono (by omega)⟩

/-! glass, wet -/
theorem bird_two {T : Nat} {X R X2 R2 : St} {i j : Nat} {x : Int32} (h : REL T X R) (hi : i ≠ 16) (hj : 14 < j ∧ j < 20 ∧ j ≠ 22) (eX : X2 = sa X 1 (up (X 1) i x)) (eR : R2 = sa R 2 (up (R 2) j x)) (hb : BE 0 (sa (sh 1 X) 0 (up (sh 1 X 0) i x)) (sa (sh 2 R) 0 (up (sh 2 R 0) j x) 0)) : REL T X2 R2 := by
  have r2 : R2 2 = up (R 2) j x := by rw [eR, sa_eq]
  have e2 : sa (sh 2 R) 0 (up (sh 2 R 0) j x) 0 = R2 2 := by rw [sa_eq, r2]; rfl
  rw [e2] at hb
  have xs : ∀ c, sh 1 X2 c = sa (sh 1 X) 0 (up (sh 1 X 0) i x) c := fun c => by rw [eX]; exact sh1_sa c
  have rj : ∀ k, k ≠ j → R2 2 k = R 2 k := fun k hk => by rw [r2, up_ne hk]
  refine h.bird (Nat.le_refl _) ⟨hb.ext (fun c _ => xs c), h.1.2.1.ex (fun k hk => rj k (by omega)), ?_, h.1.2.2.2.ex h.1.2.1.1 (fun k hk => rj k (by omega))⟩ (fun c hc => by rw [eX, sa_ne (by omega)]) (fun c hc => by rw [eR, sa_ne (by omega)]) (fun k _ => by rw [eR, sa_ne (by decide)])
  rw [xs 0, sa_eq, up_ne (by omega)]
  exact h.1.2.2.1
theorem becomes_eq {R : St} {p x : Int32} {k : Nat} {y : Int32 × St} (hp : p.toNatClampNeg = k) (ey : y = nm (xX5_becomes R p x) fun z3 => nm z3.2 fun M4 => (z3.1, M4)) : y = (R 2 k, sa R 2 (up (R 2) k x)) := by
  unfold xX5_becomes at ey
  rw [hp] at ey
  simp only [nm_eq] at ey
  exact ey
theorem C_glass {T : Nat} {X R : St} {p0 : Int32} {z y : Int32 × St} (h : REL T X R) (ez : z = xX4_glass X p0) (ey : y = xX5_glass R p0) : OUT T z y := by
  unfold xX4_glass at ez
  unfold xX5_glass at ey
  obtain ⟨a, ea, ez⟩ := nm_el ez
  obtain ⟨b, eb, ez⟩ := nm_el ez
  obtain ⟨w, ew, ey⟩ := nm_el ey
  refine guard_rel h (ew.trans (within_g ea eb)) ez ey (fun ha hb ez ey => ?_)
  obtain ⟨x9, e9, ez⟩ := nm_el ez
  obtain ⟨M10, e10, ez⟩ := nm_el ez
  have ey := becomes_eq (k := 15) (by decide +kernel) ey
  have g : X 1 3 = R 2 15 := by
    obtain ⟨-, ⟨g, -⟩, -⟩ := h.1.1
    exact g
  rw [ez, ey]
  exact ⟨by rw [e9]; exact g, (bird_two h (by decide) (by decide) e10 rfl (two3 (M := sh 2 R) p0 h.1.1)).mono (by omega)⟩
theorem C_wet {T : Nat} {X R : St} {p0 : Int32} {z y : Int32 × St} (h : REL T X R) (ez : z = xX4_wet X p0) (ey : y = xX5_wet R p0) : OUT T z y := by
  unfold xX4_wet at ez
  unfold xX5_wet at ey
  obtain ⟨a, ea, ez⟩ := nm_el ez
  obtain ⟨b, eb, ez⟩ := nm_el ez
  obtain ⟨w, ew, ey⟩ := nm_el ey
  refine guard_rel h (ew.trans (within_g ea eb)) ez ey (fun ha hb ez ey => ?_)
  obtain ⟨x9, e9, ez⟩ := nm_el ez
  obtain ⟨M10, e10, ez⟩ := nm_el ez
  have ey := becomes_eq (k := 18) (by decide +kernel) ey
  have g : X 1 6 = R 2 18 := by
    obtain ⟨-, ⟨-, -, -, g, -⟩, -⟩ := h.1.1
    exact g
  have mw : xX0_mostWet (sh 1 X) = 100 * R 2 0 := mostWet_rel (M := sh 2 R) h.1.1
  rw [mn0, mw] at e10
  rw [ez, ey]
  exact ⟨by rw [e9]; exact g, (bird_two h (by decide) (by decide) e10 rfl (two6 (M := sh 2 R) _ h.1.1)).mono (by omega)⟩
/-! run -/
theorem C_run {T : Nat} {X R : St} {p0 : Int32} {z y : Int32 × St} (hT : T < 1000000000) (h : REL T X R) (ez : z = xX4_run X p0) (ey : y = xX5_run R p0) : OUT T z y := by
  unfold xX4_run at ez
  unfold xX5_run at ey
  obtain ⟨a, ea, ez⟩ := nm_el ez
  obtain ⟨b, eb, ez⟩ := nm_el ez
  obtain ⟨w, ew, ey⟩ := nm_el ey
  refine guard_rel h (ew.trans (within_g ea eb)) ez ey (fun ha hb ez ey => ?_)
  have l1 := g_lo ea ha
  have l2 := g_lo eb hb
  rw [o32] at l1
  rw [show (3000 : Int32).toInt = 3000 from rfl] at l2
  obtain ⟨n, hn⟩ : ∃ n : Nat, p0.toInt = n := ⟨p0.toInt.toNat, by omega⟩
  obtain ⟨z9, e9, ez⟩ := nm_el ez
  obtain ⟨M10, e10, ez⟩ := nm_el ez
  obtain ⟨y3, f3, ey⟩ := nm_el ey
  obtain ⟨M4, f4, ey⟩ := nm_el ey
  rw [nodsIn_eq _ hn] at e9
  rw [goesOn_eq _ _ hn] at f3
  have rr := run_rel h.rb n
  have db := run_db h.rb (T := T) h.1.2.2.2 n (by omega)
  have xs : ∀ c, c < 12 → sh 1 M10 c = cIt (sh 1 X) n c := by
    intro c hc
    show M10 (1 + c) = _
    rw [e10, put_in (by omega) (by omega), e9]
    show cIt (sh 1 X) n (1 + c - 1) = _
    congr 1
    omega
  have r2 : M4 2 = rIt (R 0) (sh 2 R) n 0 := by
    rw [f4]
    refine (put_in (by decide) (by decide)).trans ?_
    exact congrFun (congrArg Prod.snd f3) 0
  have fin : REL (T + 3000) M10 M4 := by
    refine h.bird (by omega) ⟨?_, ?_, ?_, ?_⟩ (fun c hc => ?_) (fun c hc => ?_) (fun j _ => ?_)
    · rw [r2]; exact rr.1.1.ext xs
    · rw [r2]; exact rr.1.2.1
    · rw [xs 0 (by decide), rr.2.1]; exact h.1.2.2.1
    · rw [r2]; exact db.mono (by omega)
    · rw [e10, put_out (by omega)]
    · rw [f4, put_out (by omega)]
    · rw [f4, put_out (by omega)]
  rw [ez, ey]
  refine ⟨?_, fin⟩
  show M10 1 11 = y3.1
  rw [congrArg Prod.fst f3]
  show M10 1 11 = rIt (R 0) (sh 2 R) n 0 23
  rw [← rr.1.1.nods]
  exact congrFun (xs 0 (by decide)) 11
/-! now, air, full -/
theorem same_out {T : Nat} {X R : St} {z y : Int32 × St} {a b : Int32} (h : REL T X R) (ez : z = (a, X)) (ey : y = (b, R)) (e : a = b) : OUT T z y := by
  rw [ez, ey]
  exact ⟨e, h.mono (by omega)⟩

theorem C_now {T : Nat} {X R : St} {p0 : Int32} {z y : Int32 × St} (h : REL T X R) (ez : z = xX4_now X p0) (ey : y = xX5_now R p0) : OUT T z y := by
  unfold xX4_now at ez
  unfold xX5_now at ey
  rw [show (13 : Int32) = nI 13 from rfl] at ey
  obtain ⟨-, ⟨a1, a2, a3, a4, a5, a6, a7, a8, a9, a10, a11, a12, a13, a14⟩, -, -⟩ := h.1.1
  rw [Int32.add_zero] at a11
  have out : (p0 < 0 ∨ nI 13 ≤ p0) → OUT T z y := by
    intro q
    rw [isIn_0 q, if_pos rfl] at ey
    have ne : ∀ j : Nat, j < 13 → ¬ p0 = nI j := by
      intro j hj e
      rw [e] at q
      rcases q with q | q
      · exact nI_pos (by omega) q
      · exact nI_ge hj (by decide) q
    rw [if_neg (show ¬ p0 = 0 from ne 0 (by decide)), if_neg (show ¬ p0 = 1 from ne 1 (by decide)), if_neg (show ¬ p0 = 2 from ne 2 (by decide)), if_neg (show ¬ p0 = 3 from ne 3 (by decide)), if_neg (show ¬ p0 = 4 from ne 4 (by decide)), if_neg (show ¬ p0 = 5 from ne 5 (by decide)), if_neg (show ¬ p0 = 6 from ne 6 (by decide)), if_neg (show ¬ p0 = 7 from ne 7 (by decide)), if_neg (show ¬ p0 = 8 from ne 8 (by decide)), if_neg (show ¬ p0 = 9 from ne 9 (by decide)), if_neg (show ¬ p0 = 10 from ne 10 (by decide)), if_neg (show ¬ p0 = 11 from ne 11 (by decide)), if_neg (show ¬ p0 = 12 from ne 12 (by decide))] at ez
    obtain ⟨u, eu, ez⟩ := nm_el ez
    obtain ⟨c, ec, ey⟩ := nm_el ey
    obtain ⟨q1, q2, q3⟩ := refuse_rel h rf2 eu ec
    rw [nm_eq] at ez ey
    rw [ez, ey]
    exact ⟨by show 1000000000 - u.1 = 1000000000 - c.1; rw [q1, q2], q3.mono (by omega)⟩
  rcases pk_ix p0 (n := 13) (by decide) with q | q | ⟨k, hk, q⟩
  · exact out (Or.inl q)
  · exact out (Or.inr q)
  · rw [q, isIn_1 hk (by decide), if_neg (by decide)] at ey
    rw [q] at ez
    clear out
    have hk2 : k = 0 ∨ k = 1 ∨ k = 2 ∨ k = 3 ∨ k = 4 ∨ k = 5 ∨ k = 6 ∨ k = 7 ∨ k = 8 ∨ k = 9 ∨ k = 10 ∨ k = 11 ∨ k = 12 := by omega
    rcases hk2 with rfl | rfl | rfl | rfl | rfl | rfl | rfl | rfl | rfl | rfl | rfl | rfl | rfl
    · rw [if_pos (by decide +kernel)] at ez
      rw [if_neg (by decide +kernel), show (16 + nI 0 : Int32).toNatClampNeg = 16 from by decide +kernel] at ey
      exact same_out h ez ey a2
    · rw [if_neg (by decide +kernel), if_pos (by decide +kernel)] at ez
      rw [if_neg (by decide +kernel), show (16 + nI 1 : Int32).toNatClampNeg = 17 from by decide +kernel] at ey
      exact same_out h ez ey a3
    · rw [if_neg (by decide +kernel), if_neg (by decide +kernel), if_pos (by decide +kernel)] at ez
      rw [if_neg (by decide +kernel), show (16 + nI 2 : Int32).toNatClampNeg = 18 from by decide +kernel] at ey
      exact same_out h ez ey a4
    · rw [if_neg (by decide +kernel), if_neg (by decide +kernel), if_neg (by decide +kernel), if_pos (by decide +kernel)] at ez
      rw [if_neg (by decide +kernel), show (16 + nI 3 : Int32).toNatClampNeg = 19 from by decide +kernel] at ey
      exact same_out h ez ey a5
    · rw [if_neg (by decide +kernel), if_neg (by decide +kernel), if_neg (by decide +kernel), if_neg (by decide +kernel), if_pos (by decide +kernel)] at ez
      rw [if_neg (by decide +kernel), show (16 + nI 4 : Int32).toNatClampNeg = 20 from by decide +kernel] at ey
      exact same_out h ez ey a6
    · rw [if_neg (by decide +kernel), if_neg (by decide +kernel), if_neg (by decide +kernel), if_neg (by decide +kernel), if_neg (by decide +kernel), if_pos (by decide +kernel)] at ez
      rw [if_neg (by decide +kernel), show (16 + nI 5 : Int32).toNatClampNeg = 21 from by decide +kernel] at ey
      exact same_out h ez ey a7
    · rw [if_neg (by decide +kernel), if_neg (by decide +kernel), if_neg (by decide +kernel), if_neg (by decide +kernel), if_neg (by decide +kernel), if_neg (by decide +kernel), if_pos (by decide +kernel)] at ez
      rw [if_neg (by decide +kernel), show (16 + nI 6 : Int32).toNatClampNeg = 22 from by decide +kernel] at ey
      exact same_out h ez ey a8
    · rw [if_neg (by decide +kernel), if_neg (by decide +kernel), if_neg (by decide +kernel), if_neg (by decide +kernel), if_neg (by decide +kernel), if_neg (by decide +kernel), if_neg (by decide +kernel), if_pos (by decide +kernel)] at ez
      rw [if_neg (by decide +kernel), show (16 + nI 7 : Int32).toNatClampNeg = 23 from by decide +kernel] at ey
      exact same_out h ez ey a9
    · rw [if_neg (by decide +kernel), if_neg (by decide +kernel), if_neg (by decide +kernel), if_neg (by decide +kernel), if_neg (by decide +kernel), if_neg (by decide +kernel), if_neg (by decide +kernel), if_neg (by decide +kernel), if_pos (by decide +kernel)] at ez
      rw [if_neg (by decide +kernel), show (16 + nI 8 : Int32).toNatClampNeg = 24 from by decide +kernel] at ey
      exact same_out h ez ey a10
    · rw [if_neg (by decide +kernel), if_neg (by decide +kernel), if_neg (by decide +kernel), if_neg (by decide +kernel), if_neg (by decide +kernel), if_neg (by decide +kernel), if_neg (by decide +kernel), if_neg (by decide +kernel), if_neg (by decide +kernel), if_pos (by decide +kernel)] at ez
      rw [if_neg (by decide +kernel), show (16 + nI 9 : Int32).toNatClampNeg = 25 from by decide +kernel] at ey
      exact same_out h ez ey a11
    · rw [if_neg (by decide +kernel), if_neg (by decide +kernel), if_neg (by decide +kernel), if_neg (by decide +kernel), if_neg (by decide +kernel), if_neg (by decide +kernel), if_neg (by decide +kernel), if_neg (by decide +kernel), if_neg (by decide +kernel), if_neg (by decide +kernel), if_pos (by decide +kernel)] at ez
      rw [if_neg (by decide +kernel), show (16 + nI 10 : Int32).toNatClampNeg = 26 from by decide +kernel] at ey
      exact same_out h ez ey a12
    · rw [if_neg (by decide +kernel), if_neg (by decide +kernel), if_neg (by decide +kernel), if_neg (by decide +kernel), if_neg (by decide +kernel), if_neg (by decide +kernel), if_neg (by decide +kernel), if_neg (by decide +kernel), if_neg (by decide +kernel), if_neg (by decide +kernel), if_neg (by decide +kernel), if_pos (by decide +kernel)] at ez
      rw [if_pos (by decide +kernel), if_pos (by decide +kernel)] at ey
      exact same_out h ez ey a1
    · rw [if_neg (by decide +kernel), if_neg (by decide +kernel), if_neg (by decide +kernel), if_neg (by decide +kernel), if_neg (by decide +kernel), if_neg (by decide +kernel), if_neg (by decide +kernel), if_neg (by decide +kernel), if_neg (by decide +kernel), if_neg (by decide +kernel), if_neg (by decide +kernel), if_neg (by decide +kernel), if_pos (by decide +kernel)] at ez
      rw [if_pos (by decide +kernel), if_neg (by decide +kernel)] at ey
      exact same_out h ez ey a14

theorem air_now {T : Nat} {X R : St} (h : REL T X R) {j : Nat} (hj : j < 4) : xX0_airOf (sh 1 X) (nI (8 + j)) = xX5_airOf (sh 2 R) (nI (8 + j)) := by
  obtain ⟨⟨hs, hin, hk, -⟩, ⟨hz, -⟩, h16, -⟩ := h.1
  have ht : sh 1 X 0 10 = sh 2 R 0 22 := h.1.1.time
  by_cases q : 8 + j = 9
  · rw [q]
    have e := airOf9_rel (M := sh 2 R) (v := R 0) (Or.inl ⟨h16, h.2.2.2.2.2⟩) hs hk hz ht
    rw [if_pos h.2.2.2.2.2] at e
    exact e
  · exact airOf_rel (M := sh 2 R) hs hk hz ht rfl (by omega) q
theorem C_air {T : Nat} {X R : St} {p0 : Int32} {z y : Int32 × St} (h : REL T X R) (ez : z = xX4_air X p0) (ey : y = xX5_air R p0) : OUT T z y := by
  unfold xX4_air at ez
  unfold xX5_air at ey
  rw [show (4 : Int32) = nI 4 from rfl] at ey
  have i4 : (nI 4).toInt = 4 := rfl
  have i3 : (3 : Int32).toInt = 3 := rfl
  have out : (p0 < 0 ∨ nI 4 ≤ p0) → OUT T z y := by
    intro q
    rw [isIn_0 q, if_pos rfl] at ey
    refine ref_out h rf2 ?_ ey
    by_cases c : p0 < 0
    · rw [if_pos c] at ez
      exact ez
    · have q2 := Int32.le_iff_toInt_le.mp (q.resolve_left c)
      rw [if_neg c, if_neg (by rw [i_le]; omega)] at ez
      exact ez
  rcases pk_ix p0 (n := 4) (by decide) with q | q | ⟨k, hk, q⟩
  · exact out (Or.inl q)
  · exact out (Or.inr q)
  · have ki : (nI k).toInt = k := nI_toInt (by omega)
    rw [q, isIn_1 hk (by decide), if_neg (by decide)] at ey
    rw [q, if_neg (nI_pos (by omega)), if_pos (by rw [Int32.le_iff_toInt_le]; omega)] at ez
    refine same_out h ez ey ?_
    rw [show (8 : Int32) = nI 8 from rfl, nI_add]
    exact air_now h hk
theorem C_full {T : Nat} {X R : St} (h : REL T X R) : xX4_full X = xX5_full R := by
  unfold xX4_full xX5_full
  exact height_rel (M := sh 2 R) h.1.1

