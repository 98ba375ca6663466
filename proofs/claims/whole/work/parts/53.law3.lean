/-! THE CLAIM OUT OF ONE WALK OF THE LAW'S BODY. Your part is whole_start (and what it stands on); all else here is the same for every law, but numbers. -/
def R_law : String := "BirdThatDrinksLaw"
def lw_P (b : Addr) (xs : List Int32) (args : Array Value) (s : State) : Prop := args = #[.ref b] ∧ s.IntsAt b xs ∧ xs.length ≤ 320 ∧ (Jvm.Cond.and given_1 narrow_1).before args s = true
def lw_Q (_ : Array Value) (s : State) (o : Outcome) (t : State) : Prop := o = .returned (some (.int 1)) ∧ Framed s o t [] 600000 7302250
def lw_Z (below : List Frame) (a : Array Value) (s : State) : State → Prop := fun t => ∃ o, t.status = .running ∧ Ended t below o ∧ lw_Q a s o t
/-- the law's own end, with 1 on the stack, nothing written that was there before, its room as the claim has it -/
theorem lw_ret {p : Program} {l : Launch} {e : Env} {s : State} {m : MethodId} {below : List Frame} {meth : Method} {c : Code} {b : Nat} (hx : p.tables.exec = Jvm.exec) (hb : c.code = code) (hr : meth.sig.returnType = ret) (hlocks : meth.locks = false) {pc : Nat} {H : Heap} {ls : Array Slot} (hdg : decode code pc = .ok (.ireturn, 1)) : W p l e room_1 s m #[Value.ref b] below meth c H [] 600000 7302250 (lw_Z below #[Value.ref b] s) (F0 m pc ls [.int 1]) := by
  intro T hT X
  obtain ⟨fs, hret, hrun, hended, hW, hframe⟩ := X.leave (v := some (.int 1)) (hlocks := hlocks) (fun h => by rw [hr] at h; cases h)
  have hmeth' : T.vm.method? m = some meth := X.method'
  refine ⟨T.setFrames fs, ?_, .returned (some (.int 1)), hrun, hended, rfl, ⟨_, rfl⟩, hW, hframe⟩
  jvm_step X.here [X.here.top, hx, hb, hdg, hmeth', hr, ret, narrow_b1]
  (try refine ⟨rfl, ?_⟩); (try refine ⟨rfl, ?_⟩)
  first | (intro acts; rw [hret _ acts rfl rfl rfl]) | rw [hret _ _ rfl rfl rfl]
  exact Steps.refl _
/-- what holds at the law's entry: the machine, the code, the tables' words (any of lw_tbl by 'hts w (by decide +kernel)'), the script of L ints xs at the cell b, what the Statement gives of the start (any of its parts by flat_of_before) -/
def lw_At (p : Program) (s : State) (m : MethodId) (meth : Method) (c : Code) (b L : Nat) (xs : Nat → Int32) : Prop :=
  p.tables.exec = Jvm.exec ∧ c.code = code ∧ meth.sig.returnType = ret ∧ c.maxLocals = 4 ∧ s.vm.findClass R_law = some m.cls ∧ (∀ w ∈ lw_tbl, w.before #[Value.ref b] s = true) ∧ va_X b L xs s s.heap ∧ b < s.heap.size ∧ meth.locks = false ∧ (Jvm.Cond.and given_1 narrow_1).before #[Value.ref b] s = true
theorem r_law {p : Program} {l : Launch} {e : Env} {s : State} {m : MethodId} {b : Nat} {below : List Frame} {meth : Method} {c : Code} {cells slots : Nat} {D : va_G} {cA : ClassId} {T : Nat × Nat × Nat} {A : Nat → Prop} {ws : va_W} {pc : Nat} {L : List (Nat × Value)} (C : Cx p s m #[.ref b] meth c D cA T A cL_law 4 RL wsL_law ret) (hA : ∀ q, A q → s.heap.size ≤ q) (h1 : cells ≤ 600000) (h2 : slots ≤ 7302250) (d : decode cL_law pc = .ok (.ireturn, 1)) : G p l e room_1 s m #[.ref b] below meth c cells slots D A (lw_Z below #[.ref b] s) 4 () () ws pc L [.int 1] := fun _ H locs ls hP hD hS hl => va_forget (fun q hq => hA _ (hS.2.2 q hq)) (W.widen (k := 600000) (n := 7302250) h1 h2 (lw_ret C.1 C.2.1 C.2.2.2.2.2.2.2.1 C.2.2.2.2.2.2.2.2.1 d))
set_option maxHeartbeats 4000000 in
theorem law_loop {p : Program} {l : Launch} {e : Env} {s : State} {m : MethodId} {b : Nat} {below : List Frame} {meth : Method} {c : Code} {D : va_G} {cA : ClassId} {T : Nat × Nat × Nat} {A : Nat → Prop} {Ln : Nat} {xs : Nat → Int32} {h g : Nat → Nat}  (C : Cx p s m #[.ref b] meth c D cA T A cL_law 4 RL wsL_law ret) (hX0 : va_X b Ln xs s s.heap) (hbl : b < s.heap.size) (hbA : ¬ A b) (hL : Ln ≤ 320) (hA : ∀ q, A q → s.heap.size ≤ q) : ∀ (n k : Nat) (X R : St), Ln < 5 * k + 5 * n → 5 * k ≤ 320 → REL (3000 * k) X R → Zmain X → Zmod R → G p l e room_1 s m #[.ref b] below meth c 66 1618 D A (lw_Z below #[.ref b] s) 4 () () (mainW cA h X ++ modW cA g R) 18 [(3, .int (nI (5 * k))), (2, .ref (g 0)), (1, .ref (h 0)), (0, .ref b)] [] := by
  have c5 : (5 : Int32).toInt = 5 := rfl
  have li : (Int32.ofNat Ln).toInt = Ln := nI_toInt (n := Ln) (by omega)
  have l5 : (Int32.ofNat Ln - 5).toInt = (Ln : Int) - 5 := by rw [i_sub (by rw [li, c5]; omega) (by rw [li, c5]; omega), li, c5]
  intro n
  induction n with
  | zero =>
    intro k X R h1 h2 hr hzX hzR
    have ki : (nI (5 * k)).toInt = (5 * k : Nat) := nI_toInt (by omega)
    refine g_iload_n C (pc := 18) dL_law_18 0 rfl ?_
    refine g_aload_n C (pc := 19) dL_law_19 3 rfl ?_
    refine g_slen C (pc := 20) hX0 hbl hbA dL_law_20 ?_
    refine g_iconst C (pc := 21) dL_law_21 cI_5 ?_
    refine g_isub C (pc := 22) dL_law_22 ?_
    refine g_icmp_gt0 C (pc := 23) 1163 dL_law_23 (by decide) (fun hc => ?_) (fun hc => absurd (show Int32.ofNat Ln - 5 < nI (5 * k) by rw [Int32.lt_iff_toInt_lt, l5, ki]; omega) hc)
    refine g_iconst C (pc := 1163) dL_law_1163 cI_1 ?_
    exact r_law C hA (Nat.le_of_ble_eq_true rfl) (Nat.le_of_ble_eq_true rfl) dL_law_1164
  | succ n ih =>
    intro k X R h1 h2 hr hzX hzR
    have ki : (nI (5 * k)).toInt = (5 * k : Nat) := nI_toInt (by omega)
    refine g_iload_n C (pc := 18) dL_law_18 0 rfl ?_
    refine g_aload_n C (pc := 19) dL_law_19 3 rfl ?_
    refine g_slen C (pc := 20) hX0 hbl hbA dL_law_20 ?_
    refine g_iconst C (pc := 21) dL_law_21 cI_5 ?_
    refine g_isub C (pc := 22) dL_law_22 ?_
    refine g_icmp_gt0 C (pc := 23) 1163 dL_law_23 (by decide) (fun hc => ?_) (fun hc => ?_)
    · refine g_iconst C (pc := 1163) dL_law_1163 cI_1 ?_
      exact r_law C hA (Nat.le_of_ble_eq_true rfl) (Nat.le_of_ble_eq_true rfl) dL_law_1164
    · have hc2 := i_lt.mp hc
      rw [l5, ki] at hc2
      have hi : ∀ j : Nat, j < 5 → vp_in (nI (5 * k) + nI j) Ln := fun j hj => by rw [nI_add]; exact pk_in (5 * k + j) Ln (by omega) rfl (by omega)
      have h0 : vp_in (nI (5 * k)) Ln := pk_in (5 * k) Ln (by omega) rfl (by omega)
      have K : ∀ X2 R2 : St, REL (3000 * k + 3000) X2 R2 → Zmain X2 → Zmod R2 → G p l e room_1 s m #[.ref b] below meth c 66 1618 D A (lw_Z below #[.ref b] s) 4 () () (mainW cA h X2 ++ modW cA g R2) 1157 [(3, .int (nI (5 * k))), (2, .ref (g 0)), (1, .ref (h 0)), (0, .ref b)] [] := by
        intro X2 R2 hr2 hz1 hz2
        refine g_iinc C (pc := 1157) (nI (5 * (k + 1))) [(3, .int (nI (5 * (k + 1)))), (2, .ref (g 0)), (1, .ref (h 0)), (0, .ref b)] dL_law_1157 0 rfl (nI_add (5 * k) 5) (by decide) rfl ?_
        refine g_goto C (pc := 1160) 18 dL_law_1160 (by decide) ?_
        exact ih (k + 1) X2 R2 (by omega) (by omega) hr2 hz1 hz2
      refine g_aload_n C (pc := 26) dL_law_26 3 rfl ?_
      refine g_iload_n C (pc := 27) dL_law_27 0 rfl ?_
      refine g_sld C (pc := 28) hX0 hbl hbA h0 dL_law_28 ?_
      refine g_bipush C (pc := 29) dL_law_29 cB_63 ?_
      refine g_iand C (pc := 31) dL_law_31 ?_
      obtain ⟨j, hj, ej⟩ := pk_andE (xs (nI (5 * k)).toNatClampNeg) (m := 63) 6 (by decide +kernel)
      have cs : j = 0 ∨ j = 1 ∨ j = 2 ∨ j = 3 ∨ j = 4 ∨ j = 5 ∨ j = 6 ∨ j = 7 ∨ j = 8 ∨ j = 9 ∨ j = 10 ∨ j = 11 ∨ j = 12 ∨ j = 13 ∨ j = 14 ∨ j = 15 ∨ j = 16 ∨ j = 17 ∨ j = 18 ∨ j = 19 ∨ j = 20 ∨ j = 21 ∨ j = 22 ∨ j = 23 ∨ j = 24 ∨ j = 25 ∨ j = 26 ∨ j = 27 ∨ j = 28 ∨ j = 29 ∨ j = 30 ∨ j = 31 ∨ j = 32 ∨ j = 33 ∨ j = 34 ∨ j = 35 ∨ j = 36 ∨  37 ≤ j := by omega
      rcases cs with cs | cs | cs | cs | cs | cs | cs | cs | cs | cs | cs | cs | cs | cs | cs | cs | cs | cs | cs | cs | cs | cs | cs | cs | cs | cs | cs | cs | cs | cs | cs | cs | cs | cs | cs | cs | cs |  cs
      · refine g_tblIn C (pc := 32) 196 dL_law_32 (ej.trans (congrArg nI cs)) (rfl : (nI 0).toInt = 0) (by decide) (by decide) rfl (by decide) ?_
        exact law_c0 C hX0 hbl hbA (hi 1 (by decide)) (hi 2 (by decide)) (hi 3 (by decide)) (hi 4 (by decide)) hr hzX hzR (by omega) K
      · refine g_tblIn C (pc := 32) 259 dL_law_32 (ej.trans (congrArg nI cs)) (rfl : (nI 1).toInt = 1) (by decide) (by decide) rfl (by decide) ?_
        exact law_c1 C hX0 hbl hbA (hi 1 (by decide)) (hi 2 (by decide)) (hi 3 (by decide)) (hi 4 (by decide)) hr hzX hzR (by omega) K
      · refine g_tblIn C (pc := 32) 272 dL_law_32 (ej.trans (congrArg nI cs)) (rfl : (nI 2).toInt = 2) (by decide) (by decide) rfl (by decide) ?_
        exact law_c2 C hX0 hbl hbA (hi 1 (by decide)) (hi 2 (by decide)) (hi 3 (by decide)) (hi 4 (by decide)) hr hzX hzR (by omega) K
      · refine g_tblIn C (pc := 32) 305 dL_law_32 (ej.trans (congrArg nI cs)) (rfl : (nI 3).toInt = 3) (by decide) (by decide) rfl (by decide) ?_
        exact law_c3 C hX0 hbl hbA (hi 1 (by decide)) (hi 2 (by decide)) (hi 3 (by decide)) (hi 4 (by decide)) hr hzX hzR (by omega) K
      · refine g_tblIn C (pc := 32) 328 dL_law_32 (ej.trans (congrArg nI cs)) (rfl : (nI 4).toInt = 4) (by decide) (by decide) rfl (by decide) ?_
        exact law_c4 C hX0 hbl hbA (hi 1 (by decide)) (hi 2 (by decide)) (hi 3 (by decide)) (hi 4 (by decide)) hr hzX hzR (by omega) K
      · refine g_tblIn C (pc := 32) 351 dL_law_32 (ej.trans (congrArg nI cs)) (rfl : (nI 5).toInt = 5) (by decide) (by decide) rfl (by decide) ?_
        exact law_c5 C hX0 hbl hbA (hi 1 (by decide)) (hi 2 (by decide)) (hi 3 (by decide)) (hi 4 (by decide)) hr hzX hzR (by omega) K
      · refine g_tblIn C (pc := 32) 374 dL_law_32 (ej.trans (congrArg nI cs)) (rfl : (nI 6).toInt = 6) (by decide) (by decide) rfl (by decide) ?_
        exact law_c6 C hX0 hbl hbA (hi 1 (by decide)) (hi 2 (by decide)) (hi 3 (by decide)) (hi 4 (by decide)) hr hzX hzR (by omega) K
      · refine g_tblIn C (pc := 32) 397 dL_law_32 (ej.trans (congrArg nI cs)) (rfl : (nI 7).toInt = 7) (by decide) (by decide) rfl (by decide) ?_
        exact law_c7 C hX0 hbl hbA (hi 1 (by decide)) (hi 2 (by decide)) (hi 3 (by decide)) (hi 4 (by decide)) hr hzX hzR (by omega) K
      · refine g_tblIn C (pc := 32) 420 dL_law_32 (ej.trans (congrArg nI cs)) (rfl : (nI 8).toInt = 8) (by decide) (by decide) rfl (by decide) ?_
        exact law_c8 C hX0 hbl hbA (hi 1 (by decide)) (hi 2 (by decide)) (hi 3 (by decide)) (hi 4 (by decide)) hr hzX hzR (by omega) K
      · refine g_tblIn C (pc := 32) 433 dL_law_32 (ej.trans (congrArg nI cs)) (rfl : (nI 9).toInt = 9) (by decide) (by decide) rfl (by decide) ?_
        exact law_c9 C hX0 hbl hbA (hi 1 (by decide)) (hi 2 (by decide)) (hi 3 (by decide)) (hi 4 (by decide)) hr hzX hzR (by omega) K
      · refine g_tblIn C (pc := 32) 456 dL_law_32 (ej.trans (congrArg nI cs)) (rfl : (nI 10).toInt = 10) (by decide) (by decide) rfl (by decide) ?_
        exact law_c10 C hX0 hbl hbA (hi 1 (by decide)) (hi 2 (by decide)) (hi 3 (by decide)) (hi 4 (by decide)) hr hzX hzR (by omega) K
      · refine g_tblIn C (pc := 32) 489 dL_law_32 (ej.trans (congrArg nI cs)) (rfl : (nI 11).toInt = 11) (by decide) (by decide) rfl (by decide) ?_
        exact law_c11 C hX0 hbl hbA (hi 1 (by decide)) (hi 2 (by decide)) (hi 3 (by decide)) (hi 4 (by decide)) hr hzX hzR (by omega) K
      · refine g_tblIn C (pc := 32) 512 dL_law_32 (ej.trans (congrArg nI cs)) (rfl : (nI 12).toInt = 12) (by decide) (by decide) rfl (by decide) ?_
        exact law_c12 C hX0 hbl hbA (hi 1 (by decide)) (hi 2 (by decide)) (hi 3 (by decide)) (hi 4 (by decide)) hr hzX hzR (by omega) K
      · refine g_tblIn C (pc := 32) 545 dL_law_32 (ej.trans (congrArg nI cs)) (rfl : (nI 13).toInt = 13) (by decide) (by decide) rfl (by decide) ?_
        exact law_c13 C hX0 hbl hbA (hi 1 (by decide)) (hi 2 (by decide)) (hi 3 (by decide)) (hi 4 (by decide)) hr hzX hzR (by omega) K
      · refine g_tblIn C (pc := 32) 568 dL_law_32 (ej.trans (congrArg nI cs)) (rfl : (nI 14).toInt = 14) (by decide) (by decide) rfl (by decide) ?_
        exact law_c14 C hX0 hbl hbA (hi 1 (by decide)) (hi 2 (by decide)) (hi 3 (by decide)) (hi 4 (by decide)) hr hzX hzR (by omega) K
      · refine g_tblIn C (pc := 32) 591 dL_law_32 (ej.trans (congrArg nI cs)) (rfl : (nI 15).toInt = 15) (by decide) (by decide) rfl (by decide) ?_
        exact law_c15 C hX0 hbl hbA (hi 1 (by decide)) (hi 2 (by decide)) (hi 3 (by decide)) (hi 4 (by decide)) hr hzX hzR (by omega) K
      · refine g_tblIn C (pc := 32) 604 dL_law_32 (ej.trans (congrArg nI cs)) (rfl : (nI 16).toInt = 16) (by decide) (by decide) rfl (by decide) ?_
        exact law_c16 C hX0 hbl hbA (hi 1 (by decide)) (hi 2 (by decide)) (hi 3 (by decide)) (hi 4 (by decide)) hr hzX hzR (by omega) K
      · refine g_tblIn C (pc := 32) 627 dL_law_32 (ej.trans (congrArg nI cs)) (rfl : (nI 17).toInt = 17) (by decide) (by decide) rfl (by decide) ?_
        exact law_c17 C hX0 hbl hbA (hi 1 (by decide)) (hi 2 (by decide)) (hi 3 (by decide)) (hi 4 (by decide)) hr hzX hzR (by omega) K
      · refine g_tblIn C (pc := 32) 660 dL_law_32 (ej.trans (congrArg nI cs)) (rfl : (nI 18).toInt = 18) (by decide) (by decide) rfl (by decide) ?_
        exact law_c18 C hX0 hbl hbA (hi 1 (by decide)) (hi 2 (by decide)) (hi 3 (by decide)) (hi 4 (by decide)) hr hzX hzR (by omega) K
      · refine g_tblIn C (pc := 32) 683 dL_law_32 (ej.trans (congrArg nI cs)) (rfl : (nI 19).toInt = 19) (by decide) (by decide) rfl (by decide) ?_
        exact law_c19 C hX0 hbl hbA (hi 1 (by decide)) (hi 2 (by decide)) (hi 3 (by decide)) (hi 4 (by decide)) hr hzX hzR (by omega) K
      · refine g_tblIn C (pc := 32) 706 dL_law_32 (ej.trans (congrArg nI cs)) (rfl : (nI 20).toInt = 20) (by decide) (by decide) rfl (by decide) ?_
        exact law_c20 C hX0 hbl hbA (hi 1 (by decide)) (hi 2 (by decide)) (hi 3 (by decide)) (hi 4 (by decide)) hr hzX hzR (by omega) K
      · refine g_tblIn C (pc := 32) 749 dL_law_32 (ej.trans (congrArg nI cs)) (rfl : (nI 21).toInt = 21) (by decide) (by decide) rfl (by decide) ?_
        exact law_c21 C hX0 hbl hbA (hi 1 (by decide)) (hi 2 (by decide)) (hi 3 (by decide)) (hi 4 (by decide)) hr hzX hzR (by omega) K
      · refine g_tblIn C (pc := 32) 772 dL_law_32 (ej.trans (congrArg nI cs)) (rfl : (nI 22).toInt = 22) (by decide) (by decide) rfl (by decide) ?_
        exact law_c22 C hX0 hbl hbA (hi 1 (by decide)) (hi 2 (by decide)) (hi 3 (by decide)) (hi 4 (by decide)) hr hzX hzR (by omega) K
      · refine g_tblIn C (pc := 32) 795 dL_law_32 (ej.trans (congrArg nI cs)) (rfl : (nI 23).toInt = 23) (by decide) (by decide) rfl (by decide) ?_
        exact law_c23 C hX0 hbl hbA (hi 1 (by decide)) (hi 2 (by decide)) (hi 3 (by decide)) (hi 4 (by decide)) hr hzX hzR (by omega) K
      · refine g_tblIn C (pc := 32) 818 dL_law_32 (ej.trans (congrArg nI cs)) (rfl : (nI 24).toInt = 24) (by decide) (by decide) rfl (by decide) ?_
        exact law_c24 C hX0 hbl hbA (hi 1 (by decide)) (hi 2 (by decide)) (hi 3 (by decide)) (hi 4 (by decide)) hr hzX hzR (by omega) K
      · refine g_tblIn C (pc := 32) 841 dL_law_32 (ej.trans (congrArg nI cs)) (rfl : (nI 25).toInt = 25) (by decide) (by decide) rfl (by decide) ?_
        exact law_c25 C hX0 hbl hbA (hi 1 (by decide)) (hi 2 (by decide)) (hi 3 (by decide)) (hi 4 (by decide)) hr hzX hzR (by omega) K
      · refine g_tblIn C (pc := 32) 864 dL_law_32 (ej.trans (congrArg nI cs)) (rfl : (nI 26).toInt = 26) (by decide) (by decide) rfl (by decide) ?_
        exact law_c26 C hX0 hbl hbA (hi 1 (by decide)) (hi 2 (by decide)) (hi 3 (by decide)) (hi 4 (by decide)) hr hzX hzR (by omega) K
      · refine g_tblIn C (pc := 32) 887 dL_law_32 (ej.trans (congrArg nI cs)) (rfl : (nI 27).toInt = 27) (by decide) (by decide) rfl (by decide) ?_
        exact law_c27 C hX0 hbl hbA (hi 1 (by decide)) (hi 2 (by decide)) (hi 3 (by decide)) (hi 4 (by decide)) hr hzX hzR (by omega) K
      · refine g_tblIn C (pc := 32) 910 dL_law_32 (ej.trans (congrArg nI cs)) (rfl : (nI 28).toInt = 28) (by decide) (by decide) rfl (by decide) ?_
        exact law_c28 C hX0 hbl hbA (hi 1 (by decide)) (hi 2 (by decide)) (hi 3 (by decide)) (hi 4 (by decide)) hr hzX hzR (by omega) K
      · refine g_tblIn C (pc := 32) 933 dL_law_32 (ej.trans (congrArg nI cs)) (rfl : (nI 29).toInt = 29) (by decide) (by decide) rfl (by decide) ?_
        exact law_c29 C hX0 hbl hbA (hi 1 (by decide)) (hi 2 (by decide)) (hi 3 (by decide)) (hi 4 (by decide)) hr hzX hzR (by omega) K
      · refine g_tblIn C (pc := 32) 956 dL_law_32 (ej.trans (congrArg nI cs)) (rfl : (nI 30).toInt = 30) (by decide) (by decide) rfl (by decide) ?_
        exact law_c30 C hX0 hbl hbA (hi 1 (by decide)) (hi 2 (by decide)) (hi 3 (by decide)) (hi 4 (by decide)) hr hzX hzR (by omega) K
      · refine g_tblIn C (pc := 32) 989 dL_law_32 (ej.trans (congrArg nI cs)) (rfl : (nI 31).toInt = 31) (by decide) (by decide) rfl (by decide) ?_
        exact law_c31 C hX0 hbl hbA (hi 1 (by decide)) (hi 2 (by decide)) (hi 3 (by decide)) (hi 4 (by decide)) hr hzX hzR (by omega) K
      · refine g_tblIn C (pc := 32) 1022 dL_law_32 (ej.trans (congrArg nI cs)) (rfl : (nI 32).toInt = 32) (by decide) (by decide) rfl (by decide) ?_
        exact law_c32 C hX0 hbl hbA (hi 1 (by decide)) (hi 2 (by decide)) (hi 3 (by decide)) (hi 4 (by decide)) hr hzX hzR (by omega) K
      · refine g_tblIn C (pc := 32) 1075 dL_law_32 (ej.trans (congrArg nI cs)) (rfl : (nI 33).toInt = 33) (by decide) (by decide) rfl (by decide) ?_
        exact law_c33 C hX0 hbl hbA (hi 1 (by decide)) (hi 2 (by decide)) (hi 3 (by decide)) (hi 4 (by decide)) hr hzX hzR (by omega) K
      · refine g_tblIn C (pc := 32) 1108 dL_law_32 (ej.trans (congrArg nI cs)) (rfl : (nI 34).toInt = 34) (by decide) (by decide) rfl (by decide) ?_
        exact law_c34 C hX0 hbl hbA (hi 1 (by decide)) (hi 2 (by decide)) (hi 3 (by decide)) (hi 4 (by decide)) hr hzX hzR (by omega) K
      · refine g_tblIn C (pc := 32) 1121 dL_law_32 (ej.trans (congrArg nI cs)) (rfl : (nI 35).toInt = 35) (by decide) (by decide) rfl (by decide) ?_
        exact law_c35 C hX0 hbl hbA (hi 1 (by decide)) (hi 2 (by decide)) (hi 3 (by decide)) (hi 4 (by decide)) hr hzX hzR (by omega) K
      · refine g_tblIn C (pc := 32) 1134 dL_law_32 (ej.trans (congrArg nI cs)) (rfl : (nI 36).toInt = 36) (by decide) (by decide) rfl (by decide) ?_
        exact law_c36 C hX0 hbl hbA (hi 1 (by decide)) (hi 2 (by decide)) (hi 3 (by decide)) (hi 4 (by decide)) hr hzX hzR (by omega) K
      · refine g_tblOut C (pc := 32) 1157 dL_law_32 (Or.inr (by rw [ej, nI_toInt (by omega)]; omega)) (by decide) ?_
        exact K X R (hr.mono (by omega)) hzX hzR
