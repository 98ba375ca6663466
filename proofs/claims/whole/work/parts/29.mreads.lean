theorem inX5_reads_5 : ∀ w ∈ u_ws RX5 TX5 14, w ∈ wsX5_reads := by decide +kernel
noncomputable def xX5_reads_l126 : Nat → St → Int32 → Int32 → St
  | 0, M26, _, _ => (M26)
  | k + 1, M26, x7, v25 => if 3 ≤ v25 then (M26) else (nm (sa M26 6 (up (M26 6) ((((90 + (3 * (M26 6 150))) + v25) : Int32).toNatClampNeg) (M26 8 (v25 : Int32).toNatClampNeg))) fun M28 => nm (v25 + 1 : Int32) fun x29 => xX5_reads_l126 k M28 x7 x29)
noncomputable def xX5_reads_l53 : Nat → St → Int32 → Int32 × St
  | 0, M12, _ => (0, M12)
  | k + 1, M12, x7 => if M12 0 10 ≤ M12 0 11 then (nm (xX5_copies (sh2 6 1 2 M12)) fun z14 => nm (put2 6 1 2 1 z14 M12) fun M15 => (x7, M15)) else (nm (M12 0 11 : Int32) fun x16 => nm (xX5_readsStatement M12) fun z17 => nm (z17.2) fun M18 => nm (z17.1 : Int32) fun x19 => if (xX5_within (M18 8 2) (xX5_leastOf (M18 8 0)) (xX5_mostOf (M18 8 0))) = 0 then (if (M18 6 150) = 20 then ((((-2000) - x16), M18)) else (nm (xX5_reads_l126 (mu 0 3 + 1) M18 x7 0 : St) fun w22 => nm (w22) fun M23 => nm (sa M23 6 (up (M23 6) 150 ((M23 6 150) + 1))) fun M24 => xX5_reads_l53 k M24 x7)) else ((((-2000) - x16), M18)))
noncomputable def xX5_reads_l7 : Nat → St → Int32 → Int32 × St
  | 0, M3, _ => (0, M3)
  | k + 1, M3, v2 => nm (xX5_readsStatement M3) fun z4 => nm (z4.2) fun M5 => if z4.1 = 0 then ((((-1000) - M5 0 11), M5)) else (nm (v2 + 1 : Int32) fun x7 => if M5 0 11 < M5 0 10 then (xX5_reads_l7 k M5 x7) else (nm (xX5_copies (sh2 2 1 6 M5)) fun z9 => nm (put2 2 1 6 1 z9 M5) fun M10 => nm (sa M10 0 (up (M10 0) 11 0)) fun M11 => xX5_reads_l53 (mu (M11 0 11) (M11 0 10) + 1) M11 x7))
noncomputable def xX5_reads (M : St) : Int32 × St := nm (sa M 0 (up (M 0) 11 0)) fun M1 => xX5_reads_l7 (mu (M1 0 11) (M1 0 10) + 1) M1 0
set_option maxHeartbeats 4000000 in
set_option maxRecDepth 100000 in
theorem kX5_reads (l : Launch) (D : va_G) (cA : ClassId) (T : Nat × Nat × Nat) (h : Nat → Nat) (M : St) (hz : (Zmod M)) : ∀ sz : Nat, Met l yX5_reads wsX5_reads { frames := 3, cells := 0, slots := 0, locals := 63 } (va_Pc [.ref (h 0)] (PreW D cA T (modW cA h M) sz)) (va_Qi (fun r u => (r, u) = (xX5_reads M) ∧ (Zmod) u) (fun u => PostW D cA (va_A (modW cA h M) sz) (modW cA h u)) (va_A (modW cA h M) sz)) 0 0 (va_A (modW cA h M) sz) := by
  refine m_ei (Wf := modW cA h) (inv := (Zmod)) (cc := cX5_reads) (maxL := 5) (own := RX5) (by decide) rfl rfl (Nat.le_of_ble_eq_true rfl) (fun {p e s m args below meth c} A C X => ?_)
  show G p l e { frames := 3, cells := 0, slots := 0, locals := 63 } s m args below meth c 0 0 D A (Qei below D cA A args s 0 0 (modW cA h) (Zmod) X) 5 X (xX5_reads M) (modW cA h M) 0 [(0, .ref (h 0))] []
  unfold xX5_reads
  refine g_aload_n C (pc := 0) dX5_reads_0 0 rfl ?_
  refine g_iconst C (pc := 1) dX5_reads_1 cI_0 ?_
  refine g_put C (pc := 2) tyX5 tyX5_ok nmX5 inX5_reads_5 rfl 11 (by decide) rfl (List.mem_of_getElem? (i := 1) rfl) dX5_reads_2 rfl rfl 0 rfl (Nat.le_of_ble_eq_true rfl) (modW cA h) (sa M 0 (up (M 0) 11 0)) rfl (fun M1 eM1 => ?_)
  have hz1 : (Zmod M1) := (at_0 hz eM1)
  refine g_iconst C (pc := 5) dX5_reads_5 cI_0 ?_
  refine g_istore_n C (pc := 6) [(1, .int 0), (0, .ref (h 0))] dX5_reads_6 (by decide) rfl ?_
  have L7 : ∀ (k : Nat) (M3 : St) (v2 : Int32), (Zmod M3) → Ch (M3 7) (M3 0 10) 0 (M3 0 11) → mu (M3 0 11) (M3 0 10) < k → G p l e { frames := 3, cells := 0, slots := 0, locals := 63 } s m args below meth c 0 0 D A (Qei below D cA A args s 0 0 (modW cA h) (Zmod) X) 5 X (xX5_reads_l7 k M3 v2) (modW cA h M3) 7 [(0, .ref (h 0)), (1, .int v2)] [] := by
    intro k
    induction k with
    | zero => intro M3 v2 hz3 hc hmu; exact absurd hmu (Nat.not_lt_zero _)
    | succ k ih =>
      intro M3 v2 hz3 hc hmu
      rw [xX5_reads_l7]
      refine g_aload_n C (pc := 7) dX5_reads_7 0 rfl ?_
      refine g_Vei C (pc := 8) (As := []) (kX5_readsStatement l D cA T h M3 hz3) (v_id (modW cA h) M3 10 (fun _ => rfl) rfl) gX5_reads_X5_readsStatement rfl ⟨rfl, rfl⟩ ⟨Nat.le_of_ble_eq_true rfl, Nat.le_of_ble_eq_true rfl⟩ ⟨Nat.zero_le _, Nat.zero_le _⟩ rfl (Nat.le_of_ble_eq_true rfl) hdV_X5_readsStatement 0 rfl rfl rfl dX5_reads_8 (fun z4 ez4 hz_z4 => ?_)
      refine g_nmW (modW cA h) (fun M5 eM5 => ?_)
      have hz5 : (Zmod M5) := by rw [eM5]; exact hz_z4
      refine g_if_ne C (pc := 11) 23 dX5_reads_11 (by decide) (fun c6 => ?_) (fun c6 => ?_)
      · refine g_iincN C (pc := 23) 1 (fun y => [(1, .int y), (0, .ref (h 0))]) dX5_reads_23 1 rfl cI_1 (by decide) (fun _ => rfl) (fun x7 ex7 => ?_)
        refine g_aload_n C (pc := 26) dX5_reads_26 1 rfl ?_
        refine g_get C (pc := 27) inX5_reads_5 rfl 11 (by decide) (List.mem_of_getElem? (i := 1) rfl) dX5_reads_27 0 rfl (.int (M5 0 11)) rfl ?_
        refine g_aload_n C (pc := 30) dX5_reads_30 1 rfl ?_
        refine g_get C (pc := 31) inX5_reads_5 rfl 10 (by decide) (List.mem_of_getElem? (i := 2) rfl) dX5_reads_31 0 rfl (.int (M5 0 10)) rfl ?_
        refine g_icmp_lt C (pc := 34) 7 dX5_reads_34 (by decide) (fun c8 => ?_) (fun c8 => ?_)
        · refine g_sub [1, 0] rfl ?_
          exact ih M5 x7 hz5 (ch_k hc ez4 eM5 c6) (ch_d hz3 ez4 eM5 c6 c8 hmu)
        · have hc2 := ch_k hc ez4 eM5 c6
          refine g_aload_n C (pc := 37) dX5_reads_37 1 rfl ?_
          refine g_get C (pc := 38) inX5_reads_5 rfl 1 (by decide) (List.mem_of_getElem? (i := 3) rfl) dX5_reads_38 0 rfl (.ref (h 2)) rfl ?_
          refine g_aload_n C (pc := 41) dX5_reads_41 1 rfl ?_
          refine g_get C (pc := 42) inX5_reads_5 rfl 5 (by decide) (List.mem_of_getElem? (i := 4) rfl) dX5_reads_42 0 rfl (.ref (h 6)) rfl ?_
          refine g_Sev C (pc := 45) (As := [.ref (h 2), .ref (h 6)]) (kX5_copies l D cA T (sh2 2 1 6 h) (sh2 2 1 6 M5) trivial) (v_mod_arr2_2_6 cA h M5) gX5_reads_X5_copies rfl ⟨rfl, rfl⟩ ⟨Nat.le_of_ble_eq_true rfl, Nat.le_of_ble_eq_true rfl⟩ ⟨Nat.zero_le _, Nat.zero_le _⟩ rfl (Nat.le_of_ble_eq_true rfl) hdS_X5_copies rfl dX5_reads_45 (fun z9 ez9 hz_z9 => ?_)
          refine g_nmW (modW cA h) (fun M10 eM10 => ?_)
          have hz10 : (Zmod M10) := (zp_26 hz5 ez9 eM10)
          have h6 := rz_26 hz5 ez9 eM10
          refine g_aload_n C (pc := 48) dX5_reads_48 1 rfl ?_
          refine g_iconst C (pc := 49) dX5_reads_49 cI_0 ?_
          refine g_put C (pc := 50) tyX5 tyX5_ok nmX5 inX5_reads_5 rfl 11 (by decide) rfl (List.mem_of_getElem? (i := 1) rfl) dX5_reads_50 rfl rfl 0 rfl (Nat.le_of_ble_eq_true rfl) (modW cA h) (sa M10 0 (up (M10 0) 11 0)) rfl (fun M11 eM11 => ?_)
          have hz11 : (Zmod M11) := (at_0 hz10 eM11)
          have L53 : ∀ (k : Nat) (M12 : St), (Zmod M12) → Rd M12 → mu (M12 0 11) (M12 0 10) < k → G p l e { frames := 3, cells := 0, slots := 0, locals := 63 } s m args below meth c 0 0 D A (Qei below D cA A args s 0 0 (modW cA h) (Zmod) X) 5 X (xX5_reads_l53 k M12 x7) (modW cA h M12) 53 [(0, .ref (h 0)), (1, .int x7)] [] := by
            intro k
            induction k with
            | zero => intro M12 hz12 hr hmu; exact absurd hmu (Nat.not_lt_zero _)
            | succ k ih =>
              intro M12 hz12 hr hmu
              rw [xX5_reads_l53]
              refine g_aload_n C (pc := 53) dX5_reads_53 0 rfl ?_
              refine g_get C (pc := 54) inX5_reads_5 rfl 11 (by decide) (List.mem_of_getElem? (i := 1) rfl) dX5_reads_54 0 rfl (.int (M12 0 11)) rfl ?_
              refine g_aload_n C (pc := 57) dX5_reads_57 0 rfl ?_
              refine g_get C (pc := 58) inX5_reads_5 rfl 10 (by decide) (List.mem_of_getElem? (i := 2) rfl) dX5_reads_58 0 rfl (.int (M12 0 10)) rfl ?_
              refine g_icmp_ge C (pc := 61) 181 dX5_reads_61 (by decide) (fun c13 => ?_) (fun c13 => ?_)
              · refine g_aload_n C (pc := 181) dX5_reads_181 0 rfl ?_
                refine g_get C (pc := 182) inX5_reads_5 rfl 5 (by decide) (List.mem_of_getElem? (i := 4) rfl) dX5_reads_182 0 rfl (.ref (h 6)) rfl ?_
                refine g_aload_n C (pc := 185) dX5_reads_185 0 rfl ?_
                refine g_get C (pc := 186) inX5_reads_5 rfl 1 (by decide) (List.mem_of_getElem? (i := 3) rfl) dX5_reads_186 0 rfl (.ref (h 2)) rfl ?_
                refine g_Sev C (pc := 189) (As := [.ref (h 6), .ref (h 2)]) (kX5_copies l D cA T (sh2 6 1 2 h) (sh2 6 1 2 M12) trivial) (v_mod_arr2_6_2 cA h M12) gX5_reads_X5_copies rfl ⟨rfl, rfl⟩ ⟨Nat.le_of_ble_eq_true rfl, Nat.le_of_ble_eq_true rfl⟩ ⟨Nat.zero_le _, Nat.zero_le _⟩ rfl (Nat.le_of_ble_eq_true rfl) hdS_X5_copies rfl dX5_reads_189 (fun z14 ez14 hz_z14 => ?_)
                refine g_nmW (modW cA h) (fun M15 eM15 => ?_)
                have hz15 : (Zmod M15) := (zp_62 hr.1 hz12 ez14 eM15)
                refine g_iload_n C (pc := 192) dX5_reads_192 1 rfl ?_
                exact r_ei C rfl dX5_reads_193 hz15
              · refine g_aload_n C (pc := 64) dX5_reads_64 0 rfl ?_
                refine g_get C (pc := 65) inX5_reads_5 rfl 11 (by decide) (List.mem_of_getElem? (i := 1) rfl) dX5_reads_65 0 rfl (.int (M12 0 11)) rfl ?_
                refine g_nmi (fun x16 ex16 => ?_)
                refine g_istore_n C (pc := 68) [(2, .int x16), (0, .ref (h 0)), (1, .int x7)] dX5_reads_68 (by decide) rfl ?_
                refine g_aload_n C (pc := 69) dX5_reads_69 1 rfl ?_
                refine g_Vei C (pc := 70) (As := []) (kX5_readsStatement l D cA T h M12 hz12) (v_id (modW cA h) M12 10 (fun _ => rfl) rfl) gX5_reads_X5_readsStatement rfl ⟨rfl, rfl⟩ ⟨Nat.le_of_ble_eq_true rfl, Nat.le_of_ble_eq_true rfl⟩ ⟨Nat.zero_le _, Nat.zero_le _⟩ rfl (Nat.le_of_ble_eq_true rfl) hdV_X5_readsStatement 0 rfl rfl rfl dX5_reads_70 (fun z17 ez17 hz_z17 => ?_)
                refine g_nmW (modW cA h) (fun M18 eM18 => ?_)
                have hz18 : (Zmod M18) := by rw [eM18]; exact hz_z17
                have hr2 := rd_2 hr c13 ez17 eM18
                refine g_nmi (fun x19 ex19 => ?_)
                refine g_istore_n C (pc := 73) [(3, .int x19), (2, .int x16), (0, .ref (h 0)), (1, .int x7)] dX5_reads_73 (by decide) rfl ?_
                refine g_aload_n C (pc := 74) dX5_reads_74 2 rfl ?_
                refine g_get C (pc := 75) inX5_reads_5 rfl 9 (by decide) (List.mem_of_getElem? (i := 5) rfl) dX5_reads_75 0 rfl (.ref (h 8)) rfl ?_
                refine g_iconst C (pc := 78) dX5_reads_78 cI_2 ?_
                refine g_iald C (pc := 79) dX5_reads_79 8 rfl inb_2_3 (M18 8 2) (congrArg (M18 8) tn_2) ?_
                refine g_aload_n C (pc := 80) dX5_reads_80 2 rfl ?_
                refine g_get C (pc := 81) inX5_reads_5 rfl 9 (by decide) (List.mem_of_getElem? (i := 5) rfl) dX5_reads_81 0 rfl (.ref (h 8)) rfl ?_
                refine g_iconst C (pc := 84) dX5_reads_84 cI_0 ?_
                refine g_iald C (pc := 85) dX5_reads_85 8 rfl inb_0_3 (M18 8 0) (congrArg (M18 8) tn_0) ?_
                refine g_Spi C (pc := 86) (As := [.int (M18 8 0)]) (kX5_leastOf l D cA T (M18 8 0)) (v_none (modW cA h M18) 10 rfl rfl) gX5_reads_X5_leastOf rfl ⟨rfl, rfl⟩ ⟨Nat.le_of_ble_eq_true rfl, Nat.le_of_ble_eq_true rfl⟩ ⟨Nat.zero_le _, Nat.zero_le _⟩ rfl (Nat.le_of_ble_eq_true rfl) hdS_X5_leastOf rfl dX5_reads_86 ?_
                refine g_aload_n C (pc := 89) dX5_reads_89 2 rfl ?_
                refine g_get C (pc := 90) inX5_reads_5 rfl 9 (by decide) (List.mem_of_getElem? (i := 5) rfl) dX5_reads_90 0 rfl (.ref (h 8)) rfl ?_
                refine g_iconst C (pc := 93) dX5_reads_93 cI_0 ?_
                refine g_iald C (pc := 94) dX5_reads_94 8 rfl inb_0_3 (M18 8 0) (congrArg (M18 8) tn_0) ?_
                refine g_Spi C (pc := 95) (As := [.int (M18 8 0)]) (kX5_mostOf l D cA T (M18 8 0)) (v_none (modW cA h M18) 10 rfl rfl) gX5_reads_X5_mostOf rfl ⟨rfl, rfl⟩ ⟨Nat.le_of_ble_eq_true rfl, Nat.le_of_ble_eq_true rfl⟩ ⟨Nat.zero_le _, Nat.zero_le _⟩ rfl (Nat.le_of_ble_eq_true rfl) hdS_X5_mostOf rfl dX5_reads_95 ?_
                refine g_Spi C (pc := 98) (As := [.int (M18 8 2), .int (xX5_leastOf (M18 8 0)), .int (xX5_mostOf (M18 8 0))]) (kX5_within l D cA T (M18 8 2) (xX5_leastOf (M18 8 0)) (xX5_mostOf (M18 8 0))) (v_none (modW cA h M18) 10 rfl rfl) gX5_reads_X5_within rfl ⟨rfl, rfl⟩ ⟨Nat.le_of_ble_eq_true rfl, Nat.le_of_ble_eq_true rfl⟩ ⟨Nat.zero_le _, Nat.zero_le _⟩ rfl (Nat.le_of_ble_eq_true rfl) hdS_X5_within rfl dX5_reads_98 ?_
                refine g_if_ne C (pc := 101) 117 dX5_reads_101 (by decide) (fun c20 => ?_) (fun c20 => ?_)
                · refine g_sipush C (pc := 117) dX5_reads_117 cS_m2000 ?_
                  refine g_iload_n C (pc := 120) dX5_reads_120 1 rfl ?_
                  refine g_isub C (pc := 121) dX5_reads_121 ?_
                  exact r_ei C rfl dX5_reads_122 hz18
                · refine g_aload_n C (pc := 104) dX5_reads_104 2 rfl ?_
                  refine g_get C (pc := 105) inX5_reads_5 rfl 5 (by decide) (List.mem_of_getElem? (i := 4) rfl) dX5_reads_105 0 rfl (.ref (h 6)) rfl ?_
                  refine g_sipush C (pc := 108) dX5_reads_108 cS_150 ?_
                  refine g_iald C (pc := 111) dX5_reads_111 6 rfl inb_150_151 (M18 6 150) (congrArg (M18 6) tn_150) ?_
                  refine g_bipush C (pc := 112) dX5_reads_112 cB_20 ?_
                  refine g_icmp_ne C (pc := 114) 123 dX5_reads_114 (by decide) (fun c21 => ?_) (fun c21 => ?_)
                  · refine g_iconst C (pc := 123) dX5_reads_123 cI_0 ?_
                    refine g_istore C (pc := 124) [(4, .int 0), (3, .int x19), (2, .int x16), (0, .ref (h 0)), (1, .int x7)] dX5_reads_124 (by decide) rfl ?_
                    refine g_inner (σ := St) (fun w22 : St => (modW cA h w22)) (fun w22 => [(0, .ref (h 0)), (1, .int x7)]) 166 (fun w22 : St => (Zmod w22) ∧ Rs M18 w22) (fun w22 ew22 hw22 => ?_) (fun X22 Jw22 => ?_)
                    · refine g_nmW (modW cA h) (fun M23 eM23 => ?_)
                      have hz23 : (Zmod M23) := by rw [eM23]; exact hw22.1
                      have hs : Rs M18 M23 := by rw [eM23]; exact hw22.2
                      refine g_aload_n C (pc := 166) dX5_reads_166 0 rfl ?_
                      refine g_get C (pc := 167) inX5_reads_5 rfl 5 (by decide) (List.mem_of_getElem? (i := 4) rfl) dX5_reads_167 0 rfl (.ref (h 6)) rfl ?_
                      refine g_sipush C (pc := 170) dX5_reads_170 cS_150 ?_
                      refine g_dup2 C (pc := 173) dX5_reads_173 rfl rfl ?_
                      refine g_iald C (pc := 174) dX5_reads_174 6 rfl inb_150_151 (M23 6 150) (congrArg (M23 6) tn_150) ?_
                      refine g_iconst C (pc := 175) dX5_reads_175 cI_1 ?_
                      refine g_iadd C (pc := 176) dX5_reads_176 ?_
                      refine g_iast C (pc := 177) dX5_reads_177 6 rfl inb_150_151 (150) tn_150 (modW cA h) (sa M23 6 (up (M23 6) 150 ((M23 6 150) + 1))) rfl (fun M24 eM24 => ?_)
                      have hz24 : (Zmod M24) := by rw [eM24]; exact hz23
                      refine g_goto C (pc := 178) 53 dX5_reads_178 (by decide) ?_
                      refine g_sub [0, 1] rfl ?_
                      exact ih M24 hz24 (rd_3 hr2 hs c21 eM24) (rd_d hz12 hr c13 ez17 eM18 hs eM24 hmu)
                    · have L126 : ∀ (k : Nat) (M26 : St) (v25 : Int32), (Zmod M26) → Rs M18 M26 → 0 ≤ (v25 : Int32).toInt → mu v25 3 < k → G p l e { frames := 3, cells := 0, slots := 0, locals := 63 } s m args below meth c 0 0 D A (Qei below D cA A args s 0 0 (modW cA h) (Zmod) X) 5 X22 (xX5_reads_l126 k M26 x7 v25) (modW cA h M26) 126 [(0, .ref (h 0)), (1, .int x7), (4, .int v25)] [] := by
                        intro k
                        induction k with
                        | zero => intro M26 v25 hz26 hs hi hmu; exact absurd hmu (Nat.not_lt_zero _)
                        | succ k ih =>
                          intro M26 v25 hz26 hs hi hmu
                          rw [xX5_reads_l126]
                          refine g_iload C (pc := 126) dX5_reads_126 2 rfl ?_
                          refine g_iconst C (pc := 128) dX5_reads_128 cI_3 ?_
                          refine g_icmp_ge C (pc := 129) 166 dX5_reads_129 (by decide) (fun c27 => ?_) (fun c27 => ?_)
                          · refine g_sub [0, 1] rfl ?_
                            exact Jw22 M26 ⟨hz26, hs⟩
                          · refine g_aload_n C (pc := 132) dX5_reads_132 0 rfl ?_
                            refine g_get C (pc := 133) inX5_reads_5 rfl 5 (by decide) (List.mem_of_getElem? (i := 4) rfl) dX5_reads_133 0 rfl (.ref (h 6)) rfl ?_
                            refine g_bipush C (pc := 136) dX5_reads_136 cB_90 ?_
                            refine g_iconst C (pc := 138) dX5_reads_138 cI_3 ?_
                            refine g_aload_n C (pc := 139) dX5_reads_139 0 rfl ?_
                            refine g_get C (pc := 140) inX5_reads_5 rfl 5 (by decide) (List.mem_of_getElem? (i := 4) rfl) dX5_reads_140 0 rfl (.ref (h 6)) rfl ?_
                            refine g_sipush C (pc := 143) dX5_reads_143 cS_150 ?_
                            refine g_iald C (pc := 146) dX5_reads_146 6 rfl inb_150_151 (M26 6 150) (congrArg (M26 6) tn_150) ?_
                            refine g_imul C (pc := 147) dX5_reads_147 ?_
                            refine g_iadd C (pc := 148) dX5_reads_148 ?_
                            refine g_iload C (pc := 149) dX5_reads_149 2 rfl ?_
                            refine g_iadd C (pc := 151) dX5_reads_151 ?_
                            refine g_aload_n C (pc := 152) dX5_reads_152 0 rfl ?_
                            refine g_get C (pc := 153) inX5_reads_5 rfl 9 (by decide) (List.mem_of_getElem? (i := 5) rfl) dX5_reads_153 0 rfl (.ref (h 8)) rfl ?_
                            refine g_iload C (pc := 156) dX5_reads_156 2 rfl ?_
                            refine g_iald C (pc := 158) dX5_reads_158 8 rfl (rd_in3 hi c27) (M26 8 (v25 : Int32).toNatClampNeg) rfl ?_
                            refine g_iast C (pc := 159) dX5_reads_159 6 rfl (rd_in hr2 hs hi c21 c27) ((((90 + (3 * (M26 6 150))) + v25) : Int32).toNatClampNeg) rfl (modW cA h) (sa M26 6 (up (M26 6) ((((90 + (3 * (M26 6 150))) + v25) : Int32).toNatClampNeg) (M26 8 (v25 : Int32).toNatClampNeg))) rfl (fun M28 eM28 => ?_)
                            have hz28 : (Zmod M28) := by rw [eM28]; exact hz26
                            refine g_iincN C (pc := 160) 1 (fun y => [(4, .int y), (0, .ref (h 0)), (1, .int x7)]) dX5_reads_160 2 rfl cI_1 (by decide) (fun _ => rfl) (fun x29 ex29 => ?_)
                            refine g_goto C (pc := 163) 126 dX5_reads_163 (by decide) ?_
                            refine g_sub [1, 2, 0] rfl ?_
                            exact ih M28 x29 hz28 (rs_k hr2 hs hi c21 c27 eM28) (by rw [ex29]; exact ge_step hi c27) (by rw [ex29]; exact lp_dec c27 hmu)
                      refine g_sub [3, 4, 0] rfl ?_
                      exact L126 _ M18 0 hz18 ⟨rfl, rfl, hr2.1, rfl⟩ (by decide) (Nat.lt_succ_self _)
                  · refine g_sipush C (pc := 117) dX5_reads_117 cS_m2000 ?_
                    refine g_iload_n C (pc := 120) dX5_reads_120 1 rfl ?_
                    refine g_isub C (pc := 121) dX5_reads_121 ?_
                    exact r_ei C rfl dX5_reads_122 hz18
          refine g_sub [1, 0] rfl ?_
          exact L53 _ M11 hz11 (rd_0 hc2 c8 eM10 h6 eM11) (Nat.lt_succ_self _)
      · refine g_sipush C (pc := 14) dX5_reads_14 cS_m1000 ?_
        refine g_aload_n C (pc := 17) dX5_reads_17 0 rfl ?_
        refine g_get C (pc := 18) inX5_reads_5 rfl 11 (by decide) (List.mem_of_getElem? (i := 1) rfl) dX5_reads_18 0 rfl (.int (M5 0 11)) rfl ?_
        refine g_isub C (pc := 21) dX5_reads_21 ?_
        exact r_ei C rfl dX5_reads_22 hz5
  refine g_sub [1, 0] rfl ?_
  exact L7 _ M1 0 hz1 (by rw [eM1]; exact Ch.refl _) (Nat.lt_succ_self _)
theorem inX5_book_5 : ∀ w ∈ u_ws RX5 TX5 14, w ∈ wsX5_book := by decide +kernel
noncomputable def xX5_book (M : St) : Int32 × St := nm (xX5_reads M) fun z1 => nm (z1.2) fun M2 => nm (z1.1 : Int32) fun x3 => nm (sa M2 0 (up (M2 0) 10 0)) fun M4 => (x3, M4)
set_option maxHeartbeats 4000000 in
set_option maxRecDepth 100000 in
theorem kX5_book (l : Launch) (D : va_G) (cA : ClassId) (T : Nat × Nat × Nat) (h : Nat → Nat) (M : St) (hz : (Zmod M)) : ∀ sz : Nat, Met l yX5_book wsX5_book { frames := 4, cells := 0, slots := 0, locals := 87 } (va_Pc [.ref (h 0)] (PreW D cA T (modW cA h M) sz)) (va_Qi (fun r u => (r, u) = (xX5_book M) ∧ (Zmod) u) (fun u => PostW D cA (va_A (modW cA h M) sz) (modW cA h u)) (va_A (modW cA h M) sz)) 0 0 (va_A (modW cA h M) sz) := by
  refine m_ei (Wf := modW cA h) (inv := (Zmod)) (cc := cX5_book) (maxL := 2) (own := RX5) (by decide) rfl rfl (Nat.le_of_ble_eq_true rfl) (fun {p e s m args below meth c} A C X => ?_)
  show G p l e { frames := 4, cells := 0, slots := 0, locals := 87 } s m args below meth c 0 0 D A (Qei below D cA A args s 0 0 (modW cA h) (Zmod) X) 2 X (xX5_book M) (modW cA h M) 0 [(0, .ref (h 0))] []
  unfold xX5_book
  refine g_aload_n C (pc := 0) dX5_book_0 0 rfl ?_
  refine g_Vei C (pc := 1) (As := []) (kX5_reads l D cA T h M hz) (v_id (modW cA h) M 10 (fun _ => rfl) rfl) gX5_book_X5_reads rfl ⟨rfl, rfl⟩ ⟨Nat.le_of_ble_eq_true rfl, Nat.le_of_ble_eq_true rfl⟩ ⟨Nat.zero_le _, Nat.zero_le _⟩ rfl (Nat.le_of_ble_eq_true rfl) hdV_X5_reads 0 rfl rfl rfl dX5_book_1 (fun z1 ez1 hz_z1 => ?_)
  refine g_nmW (modW cA h) (fun M2 eM2 => ?_)
  have hz2 : (Zmod M2) := by rw [eM2]; exact hz_z1
  refine g_nmi (fun x3 ex3 => ?_)
  refine g_istore_n C (pc := 4) [(1, .int x3), (0, .ref (h 0))] dX5_book_4 (by decide) rfl ?_
  refine g_aload_n C (pc := 5) dX5_book_5 1 rfl ?_
  refine g_iconst C (pc := 6) dX5_book_6 cI_0 ?_
  refine g_put C (pc := 7) tyX5 tyX5_ok nmX5 inX5_book_5 rfl 10 (by decide) rfl (List.mem_of_getElem? (i := 1) rfl) dX5_book_7 rfl rfl 0 rfl (Nat.le_of_ble_eq_true rfl) (modW cA h) (sa M2 0 (up (M2 0) 10 0)) rfl (fun M4 eM4 => ?_)
  have hz4 : (Zmod M4) := (tp_0 hz2 eM4)
  refine g_iload_n C (pc := 10) dX5_book_10 0 rfl ?_
  exact r_ei C rfl dX5_book_11 hz4
