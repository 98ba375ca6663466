/-! the greatest common divisor: a method that calls itself -/
def cmn (a b : Int32) : Prop := ∃ i j : Nat, i < 2 ^ 31 ∧ j < 122 ∧ a = nI i ∧ b = nI j
noncomputable def xX5_common (a b : Int32) : Int32 := nI (Nat.gcd a.toInt.toNat b.toInt.toNat)
theorem kX5_commonD (l : Launch) (D : va_G) (cA : ClassId) (T : Nat × Nat × Nat) : ∀ (d i j : Nat), i < 2 ^ 31 → j < 2 ^ 31 → j < d → ∀ sz : Nat, Met l yX5_common wsX5_common { frames := d, cells := 0, slots := 0, locals := 21 * d } (va_Pc [.int (nI i), .int (nI j)] (PreW D cA T ([] : va_W) sz)) (va_Qi (fun r (_ : Unit) => r = nI (Nat.gcd i j)) (fun _ => PostW D cA (va_A ([] : va_W) sz) ([] : va_W)) (va_A ([] : va_W) sz)) 0 0 (va_A ([] : va_W) sz) := by
  intro d
  induction d with
  | zero => intro i j _ _ h; exact absurd h (Nat.not_lt_zero _)
  | succ d ih =>
    intro i j hi hj hjd
    refine m_pi (cc := cX5_common) (maxL := 2) (own := RX5) (by decide) rfl rfl (Nat.le_of_ble_eq_true rfl) (fun {p e s m args below meth c} A C X => ?_)
    show G p l e { frames := d + 1, cells := 0, slots := 0, locals := 21 * (d + 1) } s m args below meth c 0 0 D A (Qpi below D cA A args s ([] : va_W) X) 2 X (nI (Nat.gcd i j)) ([] : va_W) 0 [(0, .int (nI i)), (1, .int (nI j))] []
    refine g_ev (t2 := if nI j = 0 then nI i else nI (Nat.gcd j (i % j))) ?_ ?_
    · by_cases h : j = 0
      · subst h
        rw [if_pos nI_0, Nat.gcd_zero_right]
      · rw [if_neg (nI_ne0 (by omega) hj), Nat.gcd_comm, Nat.gcd_rec, Nat.gcd_comm]
    refine g_iload_n C (pc := 0) dX5_common_0 1 rfl ?_
    refine g_if_ne C (pc := 1) 8 dX5_common_1 (by decide) (fun c1 => ?_) (fun c1 => ?_)
    · have h0 : 0 < j := by
        rcases Nat.eq_zero_or_pos j with h | h
        · subst h; exact absurd nI_0 c1
        · exact h
      refine g_iload_n C (pc := 8) dX5_common_8 1 rfl ?_
      refine g_iload_n C (pc := 9) dX5_common_9 0 rfl ?_
      refine g_iload_n C (pc := 10) dX5_common_10 1 rfl ?_
      refine g_irem C (pc := 11) dX5_common_11 c1 ?_
      rw [pk_rem hi h0 hj]
      refine g_Spi C (pc := 12) (As := [.int (nI j), .int (nI (i % j))]) (ih j (i % j) hj (Nat.lt_trans (Nat.mod_lt _ h0) hj) (by have := Nat.mod_lt i h0; omega)) (v_none ([] : va_W) 0 rfl rfl) gX5_common_X5_common rfl ⟨rfl, rfl⟩ ⟨Nat.le_refl _, by show 8 + (2 + 11) + 21 * d ≤ 21 * (d + 1); omega⟩ ⟨Nat.zero_le _, Nat.zero_le _⟩ rfl (Nat.le_of_ble_eq_true rfl) hdS_X5_common rfl dX5_common_12 ?_
      exact r_pi C rfl dX5_common_15
    · refine g_iload_n C (pc := 4) dX5_common_4 0 rfl ?_
      refine g_goto C (pc := 5) 15 dX5_common_5 (by decide) ?_
      exact r_pi C rfl dX5_common_15
theorem kX5_common (l : Launch) (D : va_G) (cA : ClassId) (T : Nat × Nat × Nat) (p0 p1 : Int32) (hp : cmn p0 p1) : ∀ sz : Nat, Met l yX5_common wsX5_common { frames := 122, cells := 0, slots := 0, locals := 2562 } (va_Pc [.int p0, .int p1] (PreW D cA T ([] : va_W) sz)) (va_Qi (fun r (_ : Unit) => r = (xX5_common p0 p1)) (fun _ => PostW D cA (va_A ([] : va_W) sz) ([] : va_W)) (va_A ([] : va_W) sz)) 0 0 (va_A ([] : va_W) sz) := by
  obtain ⟨i, j, hi, hj, rfl, rfl⟩ := hp
  have e : xX5_common (nI i) (nI j) = nI (Nat.gcd i j) := by
    unfold xX5_common
    rw [nI_toInt hi, nI_toInt (by omega)]
    rfl
  rw [e]
  exact kX5_commonD l D cA T 122 i j hi (by omega) hj
/-! goes: how many birds are asked -/
theorem goes5_by {v p0 p1 : Int32} (e : v = if p0 < 1 then -4 else if 0 ≤ p1 then (if 300 < p0 then -6 else if p1 ≤ 5 then 0 else -6) else -4) (c : v = 0) : 0 ≤ p1.toInt ∧ p1.toInt ≤ 5 := by
  rw [e] at c
  split at c
  · exact absurd c (by decide)
  · split at c
    · rename_i q
      have q2 := Int32.le_iff_toInt_le.mp q
      rw [show (0 : Int32).toInt = 0 from rfl] at q2
      split at c
      · exact absurd c (by decide)
      · split at c
        · rename_i q3
          have q4 := Int32.le_iff_toInt_le.mp q3
          exact ⟨q2, q4⟩
        · exact absurd c (by decide)
    · exact absurd c (by decide)
/-- by rows: dy, all, those that fit -/
def gi (by_ dy al fit : Int32) : Prop := 0 ≤ fit.toInt ∧ fit.toInt ≤ al.toInt ∧ al.toInt ≤ 11 * (dy.toInt + by_.toInt) ∧ - by_.toInt ≤ dy.toInt ∧ dy.toInt ≤ by_.toInt + 1 ∧ (1 ≤ al.toInt ∨ dy.toInt = - by_.toInt)
def gj (by_ dy dx al fit : Int32) : Prop := 0 ≤ fit.toInt ∧ fit.toInt ≤ al.toInt ∧ al.toInt ≤ 11 * (dy.toInt + by_.toInt) + (dx.toInt + by_.toInt) ∧ - by_.toInt ≤ dx.toInt ∧ dx.toInt ≤ by_.toInt + 1 ∧ (1 ≤ al.toInt ∨ dx.toInt = - by_.toInt) ∧ - by_.toInt ≤ dy.toInt ∧ dy.toInt ≤ by_.toInt
def gw (by_ dy al fit : Int32) : Prop := 0 ≤ fit.toInt ∧ fit.toInt ≤ al.toInt ∧ al.toInt ≤ 11 * (dy.toInt + by_.toInt + 1) ∧ 1 ≤ al.toInt
theorem i_neg {a : Int32} (h : -2147483648 < a.toInt) : (-a).toInt = -a.toInt := by
  have := Int32.toInt_lt a
  rw [Int32.toInt_neg, Int.bmod_eq_of_le] <;> omega
theorem gi_0 {by_ dy : Int32} (hb : 0 ≤ by_.toInt ∧ by_.toInt ≤ 5) (e : dy = -by_) : gi by_ dy 0 0 := by
  have e2 : dy.toInt = - by_.toInt := by rw [e, i_neg (by omega)]
  unfold gi
  rw [e2, show (0 : Int32).toInt = 0 from rfl]
  omega
theorem gj_0 {by_ dy dx al fit : Int32} (hb : 0 ≤ by_.toInt ∧ by_.toInt ≤ 5) (hi : gi by_ dy al fit) (c : ¬ by_ < dy) (e : dx = -by_) : gj by_ dy dx al fit := by
  have e2 : dx.toInt = - by_.toInt := by rw [e, i_neg (by omega)]
  have c2 := i_lt.mp c
  unfold gi at hi
  unfold gj
  rw [e2]
  omega
theorem gj_s {by_ dy dx dx2 al al2 fit fit2 : Int32} (hb : 0 ≤ by_.toInt ∧ by_.toInt ≤ 5) (hj : gj by_ dy dx al fit) (c : ¬ by_ < dx) (e1 : al2 = al + 1) (e2 : dx2 = dx + 1) (e3 : fit2 = fit ∨ fit2 = fit + 1) : gj by_ dy dx2 al2 fit2 := by
  have c2 := i_lt.mp c
  unfold gj at *
  have a1 : al2.toInt = al.toInt + 1 := by rw [e1, i_add] <;> rw [show (1 : Int32).toInt = 1 from rfl] <;> omega
  have a2 : dx2.toInt = dx.toInt + 1 := by rw [e2, i_add] <;> rw [show (1 : Int32).toInt = 1 from rfl] <;> omega
  have a3 : fit2.toInt = fit.toInt ∨ fit2.toInt = fit.toInt + 1 := by
    rcases e3 with rfl | rfl
    · exact Or.inl rfl
    · right
      rw [i_add] <;> rw [show (1 : Int32).toInt = 1 from rfl] <;> omega
  rw [a1, a2]
  omega
theorem fit_or {fit fit2 v z : Int32} (e : fit2 = fit + v) (ev : v = if z ≤ 0 then 0 else 1) : fit2 = fit ∨ fit2 = fit + 1 := by
  rw [e, ev]
  split
  · exact Or.inl (by rw [Int32.add_zero])
  · exact Or.inr rfl
theorem gw_of {by_ dy dx al fit : Int32} (hb : 0 ≤ by_.toInt ∧ by_.toInt ≤ 5) (hj : gj by_ dy dx al fit) (c : by_ < dx) : gw by_ dy al fit := by
  have c2 := Int32.lt_iff_toInt_lt.mp c
  unfold gj at hj
  unfold gw
  omega
theorem gi_s {by_ dy dy2 al fit al0 fit0 : Int32} (hb : 0 ≤ by_.toInt ∧ by_.toInt ≤ 5) (hi : gi by_ dy al0 fit0) (c : ¬ by_ < dy) (e : dy2 = dy + 1) (hw : gw by_ dy al fit) : gi by_ dy2 al fit := by
  have c2 := i_lt.mp c
  unfold gi at *
  unfold gw at hw
  have a2 : dy2.toInt = dy.toInt + 1 := by rw [e, i_add] <;> rw [show (1 : Int32).toInt = 1 from rfl] <;> omega
  rw [a2]
  omega
theorem nIt {x : Int32} (h : 0 ≤ x.toInt) : x = nI x.toInt.toNat := by
  apply Int32.toInt_inj.mp
  have := Int32.toInt_lt x
  rw [nI_toInt (by omega)]
  omega
theorem go_b {by_ dy al fit : Int32} (hb : 0 ≤ by_.toInt ∧ by_.toInt ≤ 5) (hi : gi by_ dy al fit) (c : by_ < dy) : 1 ≤ al.toInt ∧ al.toInt ≤ 121 ∧ 0 ≤ fit.toInt ∧ fit.toInt ≤ al.toInt := by
  have c2 := Int32.lt_iff_toInt_lt.mp c
  unfold gi at hi
  omega
theorem go_cm {by_ dy al fit : Int32} (hb : 0 ≤ by_.toInt ∧ by_.toInt ≤ 5) (hi : gi by_ dy al fit) (c : by_ < dy) : cmn al fit := by
  have q := go_b hb hi c
  exact ⟨al.toInt.toNat, fit.toInt.toNat, by omega, by omega, nIt (by omega), nIt (by omega)⟩
theorem go_nz {by_ dy al fit x : Int32} (hb : 0 ≤ by_.toInt ∧ by_.toInt ≤ 5) (hi : gi by_ dy al fit) (c : by_ < dy) (e : x = xX5_common al fit) : ¬ x = 0 := by
  have q := go_b hb hi c
  rw [e]
  unfold xX5_common
  have h1 : 0 < Nat.gcd al.toInt.toNat fit.toInt.toNat := Nat.gcd_pos_of_pos_left _ (by omega)
  have h2 : Nat.gcd al.toInt.toNat fit.toInt.toNat ≤ al.toInt.toNat := Nat.gcd_le_left _ (by omega)
  exact nI_ne0 h1 (by omega)
