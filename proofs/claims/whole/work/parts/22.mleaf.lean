
noncomputable def xX5_isIn (p0 : Int32) (p1 : Int32) : Int32 := if p0 < 0 then (0) else (if p1 ≤ p0 then (0) else (1))
set_option maxHeartbeats 4000000 in
set_option maxRecDepth 100000 in
theorem kX5_isIn (l : Launch) (D : va_G) (cA : ClassId) (T : Nat × Nat × Nat) (p0 : Int32) (p1 : Int32) : ∀ sz : Nat, Met l yX5_isIn wsX5_isIn { frames := 0, cells := 0, slots := 0, locals := 0 } (va_Pc [.int p0, .int p1] (PreW D cA T ([] : va_W) sz)) (va_Qi (fun r (_ : Unit) => r = (xX5_isIn p0 p1)) (fun _ => PostW D cA (va_A ([] : va_W) sz) ([] : va_W)) (va_A ([] : va_W) sz)) 0 0 (va_A ([] : va_W) sz) := by
  refine m_pi (cc := cX5_isIn) (maxL := 2) (own := RX5) (by decide) rfl rfl (Nat.le_of_ble_eq_true rfl) (fun {p e s m args below meth c} A C X => ?_)
  show G p l e { frames := 0, cells := 0, slots := 0, locals := 0 } s m args below meth c 0 0 D A (Qpi below D cA A args s ([] : va_W) X) 2 X (xX5_isIn p0 p1) ([] : va_W) 0 [(0, .int p0), (1, .int p1)] []
  unfold xX5_isIn
  refine g_iload_n C (pc := 0) dX5_isIn_0 0 rfl ?_
  refine g_if_lt C (pc := 1) 13 dX5_isIn_1 (by decide) (fun c1 => ?_) (fun c1 => ?_)
  · refine g_iconst C (pc := 13) dX5_isIn_13 cI_0 ?_
    exact r_pz C rfl (rfl) dX5_isIn_14
  · refine g_iload_n C (pc := 4) dX5_isIn_4 0 rfl ?_
    refine g_iload_n C (pc := 5) dX5_isIn_5 1 rfl ?_
    refine g_icmp_ge C (pc := 6) 13 dX5_isIn_6 (by decide) (fun c2 => ?_) (fun c2 => ?_)
    · refine g_iconst C (pc := 13) dX5_isIn_13 cI_0 ?_
      exact r_pz C rfl (rfl) dX5_isIn_14
    · refine g_iconst C (pc := 9) dX5_isIn_9 cI_1 ?_
      refine g_goto C (pc := 10) 14 dX5_isIn_10 (by decide) ?_
      exact r_pz C rfl (rfl) dX5_isIn_14

noncomputable def xX5_within (p0 : Int32) (p1 : Int32) (p2 : Int32) : Int32 := if p1 ≤ p0 then (if p0 ≤ p2 then (0) else ((-6))) else ((-4))
set_option maxHeartbeats 4000000 in
set_option maxRecDepth 100000 in
theorem kX5_within (l : Launch) (D : va_G) (cA : ClassId) (T : Nat × Nat × Nat) (p0 : Int32) (p1 : Int32) (p2 : Int32) : ∀ sz : Nat, Met l yX5_within wsX5_within { frames := 0, cells := 0, slots := 0, locals := 0 } (va_Pc [.int p0, .int p1, .int p2] (PreW D cA T ([] : va_W) sz)) (va_Qi (fun r (_ : Unit) => r = (xX5_within p0 p1 p2)) (fun _ => PostW D cA (va_A ([] : va_W) sz) ([] : va_W)) (va_A ([] : va_W) sz)) 0 0 (va_A ([] : va_W) sz) := by
  refine m_pi (cc := cX5_within) (maxL := 3) (own := RX5) (by decide) rfl rfl (Nat.le_of_ble_eq_true rfl) (fun {p e s m args below meth c} A C X => ?_)
  show G p l e { frames := 0, cells := 0, slots := 0, locals := 0 } s m args below meth c 0 0 D A (Qpi below D cA A args s ([] : va_W) X) 3 X (xX5_within p0 p1 p2) ([] : va_W) 0 [(0, .int p0), (1, .int p1), (2, .int p2)] []
  unfold xX5_within
  refine g_iload_n C (pc := 0) dX5_within_0 0 rfl ?_
  refine g_iload_n C (pc := 1) dX5_within_1 1 rfl ?_
  refine g_icmp_ge C (pc := 2) 10 dX5_within_2 (by decide) (fun c1 => ?_) (fun c1 => ?_)
  · refine g_iload_n C (pc := 10) dX5_within_10 0 rfl ?_
    refine g_iload_n C (pc := 11) dX5_within_11 2 rfl ?_
    refine g_icmp_le C (pc := 12) 20 dX5_within_12 (by decide) (fun c2 => ?_) (fun c2 => ?_)
    · refine g_iconst C (pc := 20) dX5_within_20 cI_0 ?_
      exact r_pi C rfl dX5_within_21
    · refine g_bipush C (pc := 15) dX5_within_15 cB_m6 ?_
      refine g_goto C (pc := 17) 21 dX5_within_17 (by decide) ?_
      exact r_pi C rfl dX5_within_21
  · refine g_bipush C (pc := 5) dX5_within_5 cB_m4 ?_
    refine g_goto C (pc := 7) 21 dX5_within_7 (by decide) ?_
    exact r_pi C rfl dX5_within_21

noncomputable def xX5_thingOf (p0 : Int32) : Int32 := if p0 = 100 then (8) else (if p0 = 108 then (10) else (if p0 = 114 then (11) else (if p0 = 119 then (9) else ((-9)))))
set_option maxHeartbeats 4000000 in
set_option maxRecDepth 100000 in
theorem kX5_thingOf (l : Launch) (D : va_G) (cA : ClassId) (T : Nat × Nat × Nat) (p0 : Int32) : ∀ sz : Nat, Met l yX5_thingOf wsX5_thingOf { frames := 0, cells := 0, slots := 0, locals := 0 } (va_Pc [.int p0] (PreW D cA T ([] : va_W) sz)) (va_Qi (fun r (_ : Unit) => r = (xX5_thingOf p0)) (fun _ => PostW D cA (va_A ([] : va_W) sz) ([] : va_W)) (va_A ([] : va_W) sz)) 0 0 (va_A ([] : va_W) sz) := by
  refine m_pi (cc := cX5_thingOf) (maxL := 1) (own := RX5) (by decide) rfl rfl (Nat.le_of_ble_eq_true rfl) (fun {p e s m args below meth c} A C X => ?_)
  show G p l e { frames := 0, cells := 0, slots := 0, locals := 0 } s m args below meth c 0 0 D A (Qpi below D cA A args s ([] : va_W) X) 1 X (xX5_thingOf p0) ([] : va_W) 0 [(0, .int p0)] []
  unfold xX5_thingOf
  refine g_iload_n C (pc := 0) dX5_thingOf_0 0 rfl ?_
  refine g_case (p0) 100 (fun c1 => ?_) (fun c1 => ?_)
  · refine g_lkp C (pc := 1) (off := 43) 44 dX5_thingOf_1 (by decide) (by rw [c1] <;> rfl) (by decide) ?_
    refine g_bipush C (pc := 44) dX5_thingOf_44 cB_8 ?_
    exact r_pi C rfl dX5_thingOf_46
  · refine g_case (p0) 108 (fun c2 => ?_) (fun c2 => ?_)
    · refine g_lkp C (pc := 1) (off := 49) 50 dX5_thingOf_1 (by decide) (by rw [c2] <;> rfl) (by decide) ?_
      refine g_bipush C (pc := 50) dX5_thingOf_50 cB_10 ?_
      exact r_pi C rfl dX5_thingOf_52
    · refine g_case (p0) 114 (fun c3 => ?_) (fun c3 => ?_)
      · refine g_lkp C (pc := 1) (off := 52) 53 dX5_thingOf_1 (by decide) (by rw [c3] <;> rfl) (by decide) ?_
        refine g_bipush C (pc := 53) dX5_thingOf_53 cB_11 ?_
        exact r_pi C rfl dX5_thingOf_55
      · refine g_case (p0) 119 (fun c4 => ?_) (fun c4 => ?_)
        · refine g_lkp C (pc := 1) (off := 46) 47 dX5_thingOf_1 (by decide) (by rw [c4] <;> rfl) (by decide) ?_
          refine g_bipush C (pc := 47) dX5_thingOf_47 cB_9 ?_
          exact r_pi C rfl dX5_thingOf_49
        · refine g_lkp C (pc := 1) (off := 55) 56 dX5_thingOf_1 (by decide) (by show Op.lookupswitch.offset [(100, 43), (108, 49), (114, 52), (119, 46)] 55 (Int32.toInt p0) = 55; rw [lv_osw (a := 100) c1 rfl]; rw [lv_osw (a := 108) c2 rfl]; rw [lv_osw (a := 114) c3 rfl]; rw [lv_osw (a := 119) c4 rfl]; rfl) (by decide) ?_
          refine g_bipush C (pc := 56) dX5_thingOf_56 cB_m9 ?_
          exact r_pi C rfl dX5_thingOf_58

noncomputable def xX5_leastOf (p0 : Int32) : Int32 := if p0 = 0 then (10) else (if p0 = 1 then (1) else (if p0 = 2 then (10) else (if p0 = 3 then (1) else (if p0 = 4 then (0) else (if p0 = 5 then (0) else (if p0 = 6 then (1) else (if p0 = 7 then (0) else (if p0 = 8 then (0) else (if p0 = 9 then (0) else (if p0 = 10 then (0) else (if p0 = 11 then (100) else (0))))))))))))
set_option maxHeartbeats 4000000 in
set_option maxRecDepth 100000 in
theorem kX5_leastOf (l : Launch) (D : va_G) (cA : ClassId) (T : Nat × Nat × Nat) (p0 : Int32) : ∀ sz : Nat, Met l yX5_leastOf wsX5_leastOf { frames := 0, cells := 0, slots := 0, locals := 0 } (va_Pc [.int p0] (PreW D cA T ([] : va_W) sz)) (va_Qi (fun r (_ : Unit) => r = (xX5_leastOf p0)) (fun _ => PostW D cA (va_A ([] : va_W) sz) ([] : va_W)) (va_A ([] : va_W) sz)) 0 0 (va_A ([] : va_W) sz) := by
  refine m_pi (cc := cX5_leastOf) (maxL := 1) (own := RX5) (by decide) rfl rfl (Nat.le_of_ble_eq_true rfl) (fun {p e s m args below meth c} A C X => ?_)
  show G p l e { frames := 0, cells := 0, slots := 0, locals := 0 } s m args below meth c 0 0 D A (Qpi below D cA A args s ([] : va_W) X) 1 X (xX5_leastOf p0) ([] : va_W) 0 [(0, .int p0)] []
  unfold xX5_leastOf
  refine g_iload_n C (pc := 0) dX5_leastOf_0 0 rfl ?_
  refine g_case (p0) 0 (fun c1 => ?_) (fun c1 => ?_)
  · refine g_tblIn C (pc := 1) 64 dX5_leastOf_1 c1 (rfl : (0 : Int32).toInt = 0) (by decide) (by decide) rfl (by decide) ?_
    refine g_bipush C (pc := 64) dX5_leastOf_64 cB_10 ?_
    exact r_pi C rfl dX5_leastOf_66
  · refine g_case (p0) 1 (fun c2 => ?_) (fun c2 => ?_)
    · refine g_tblIn C (pc := 1) 67 dX5_leastOf_1 c2 (rfl : (1 : Int32).toInt = 1) (by decide) (by decide) rfl (by decide) ?_
      refine g_iconst C (pc := 67) dX5_leastOf_67 cI_1 ?_
      exact r_pi C rfl dX5_leastOf_68
    · refine g_case (p0) 2 (fun c3 => ?_) (fun c3 => ?_)
      · refine g_tblIn C (pc := 1) 64 dX5_leastOf_1 c3 (rfl : (2 : Int32).toInt = 2) (by decide) (by decide) rfl (by decide) ?_
        refine g_bipush C (pc := 64) dX5_leastOf_64 cB_10 ?_
        exact r_pi C rfl dX5_leastOf_66
      · refine g_case (p0) 3 (fun c4 => ?_) (fun c4 => ?_)
        · refine g_tblIn C (pc := 1) 67 dX5_leastOf_1 c4 (rfl : (3 : Int32).toInt = 3) (by decide) (by decide) rfl (by decide) ?_
          refine g_iconst C (pc := 67) dX5_leastOf_67 cI_1 ?_
          exact r_pi C rfl dX5_leastOf_68
        · refine g_case (p0) 4 (fun c5 => ?_) (fun c5 => ?_)
          · refine g_tblIn C (pc := 1) 72 dX5_leastOf_1 c5 (rfl : (4 : Int32).toInt = 4) (by decide) (by decide) rfl (by decide) ?_
            refine g_iconst C (pc := 72) dX5_leastOf_72 cI_0 ?_
            exact r_pi C rfl dX5_leastOf_73
          · refine g_case (p0) 5 (fun c6 => ?_) (fun c6 => ?_)
            · refine g_tblIn C (pc := 1) 72 dX5_leastOf_1 c6 (rfl : (5 : Int32).toInt = 5) (by decide) (by decide) rfl (by decide) ?_
              refine g_iconst C (pc := 72) dX5_leastOf_72 cI_0 ?_
              exact r_pi C rfl dX5_leastOf_73
            · refine g_case (p0) 6 (fun c7 => ?_) (fun c7 => ?_)
              · refine g_tblIn C (pc := 1) 67 dX5_leastOf_1 c7 (rfl : (6 : Int32).toInt = 6) (by decide) (by decide) rfl (by decide) ?_
                refine g_iconst C (pc := 67) dX5_leastOf_67 cI_1 ?_
                exact r_pi C rfl dX5_leastOf_68
              · refine g_case (p0) 7 (fun c8 => ?_) (fun c8 => ?_)
                · refine g_tblIn C (pc := 1) 72 dX5_leastOf_1 c8 (rfl : (7 : Int32).toInt = 7) (by decide) (by decide) rfl (by decide) ?_
                  refine g_iconst C (pc := 72) dX5_leastOf_72 cI_0 ?_
                  exact r_pi C rfl dX5_leastOf_73
                · refine g_case (p0) 8 (fun c9 => ?_) (fun c9 => ?_)
                  · refine g_tblIn C (pc := 1) 72 dX5_leastOf_1 c9 (rfl : (8 : Int32).toInt = 8) (by decide) (by decide) rfl (by decide) ?_
                    refine g_iconst C (pc := 72) dX5_leastOf_72 cI_0 ?_
                    exact r_pi C rfl dX5_leastOf_73
                  · refine g_case (p0) 9 (fun c10 => ?_) (fun c10 => ?_)
                    · refine g_tblIn C (pc := 1) 72 dX5_leastOf_1 c10 (rfl : (9 : Int32).toInt = 9) (by decide) (by decide) rfl (by decide) ?_
                      refine g_iconst C (pc := 72) dX5_leastOf_72 cI_0 ?_
                      exact r_pi C rfl dX5_leastOf_73
                    · refine g_case (p0) 10 (fun c11 => ?_) (fun c11 => ?_)
                      · refine g_tblIn C (pc := 1) 72 dX5_leastOf_1 c11 (rfl : (10 : Int32).toInt = 10) (by decide) (by decide) rfl (by decide) ?_
                        refine g_iconst C (pc := 72) dX5_leastOf_72 cI_0 ?_
                        exact r_pi C rfl dX5_leastOf_73
                      · refine g_case (p0) 11 (fun c12 => ?_) (fun c12 => ?_)
                        · refine g_tblIn C (pc := 1) 69 dX5_leastOf_1 c12 (rfl : (11 : Int32).toInt = 11) (by decide) (by decide) rfl (by decide) ?_
                          refine g_bipush C (pc := 69) dX5_leastOf_69 cB_100 ?_
                          exact r_pi C rfl dX5_leastOf_71
                        · refine g_tblOut C (pc := 1) 72 dX5_leastOf_1 (by have q0 : ¬ (p0 : Int32).toInt = 0 := lv_neT c1 rfl; have q1 : ¬ (p0 : Int32).toInt = 1 := lv_neT c2 rfl; have q2 : ¬ (p0 : Int32).toInt = 2 := lv_neT c3 rfl; have q3 : ¬ (p0 : Int32).toInt = 3 := lv_neT c4 rfl; have q4 : ¬ (p0 : Int32).toInt = 4 := lv_neT c5 rfl; have q5 : ¬ (p0 : Int32).toInt = 5 := lv_neT c6 rfl; have q6 : ¬ (p0 : Int32).toInt = 6 := lv_neT c7 rfl; have q7 : ¬ (p0 : Int32).toInt = 7 := lv_neT c8 rfl; have q8 : ¬ (p0 : Int32).toInt = 8 := lv_neT c9 rfl; have q9 : ¬ (p0 : Int32).toInt = 9 := lv_neT c10 rfl; have q10 : ¬ (p0 : Int32).toInt = 10 := lv_neT c11 rfl; have q11 : ¬ (p0 : Int32).toInt = 11 := lv_neT c12 rfl; omega) (by decide) ?_
                          refine g_iconst C (pc := 72) dX5_leastOf_72 cI_0 ?_
                          exact r_pi C rfl dX5_leastOf_73

noncomputable def xX5_mostOf (p0 : Int32) : Int32 := if p0 = 3 then (9) else (if p0 = 4 then (99) else (if p0 = 5 then (9) else (if p0 = 6 then (4) else (if p0 = 7 then (1) else (if p0 = 8 then (99) else (if p0 = 9 then (9) else (if p0 = 10 then (9) else (if p0 = 11 then (400) else (if p0 = 12 then (1) else (if p0 = 13 then (1) else (if p0 = 14 then (999) else (99))))))))))))
set_option maxHeartbeats 4000000 in
set_option maxRecDepth 100000 in
theorem kX5_mostOf (l : Launch) (D : va_G) (cA : ClassId) (T : Nat × Nat × Nat) (p0 : Int32) : ∀ sz : Nat, Met l yX5_mostOf wsX5_mostOf { frames := 0, cells := 0, slots := 0, locals := 0 } (va_Pc [.int p0] (PreW D cA T ([] : va_W) sz)) (va_Qi (fun r (_ : Unit) => r = (xX5_mostOf p0)) (fun _ => PostW D cA (va_A ([] : va_W) sz) ([] : va_W)) (va_A ([] : va_W) sz)) 0 0 (va_A ([] : va_W) sz) := by
  refine m_pi (cc := cX5_mostOf) (maxL := 1) (own := RX5) (by decide) rfl rfl (Nat.le_of_ble_eq_true rfl) (fun {p e s m args below meth c} A C X => ?_)
  show G p l e { frames := 0, cells := 0, slots := 0, locals := 0 } s m args below meth c 0 0 D A (Qpi below D cA A args s ([] : va_W) X) 1 X (xX5_mostOf p0) ([] : va_W) 0 [(0, .int p0)] []
  unfold xX5_mostOf
  refine g_iload_n C (pc := 0) dX5_mostOf_0 0 rfl ?_
  refine g_case (p0) 3 (fun c1 => ?_) (fun c1 => ?_)
  · refine g_tblIn C (pc := 1) 64 dX5_mostOf_1 c1 (rfl : (3 : Int32).toInt = 3) (by decide) (by decide) rfl (by decide) ?_
    refine g_bipush C (pc := 64) dX5_mostOf_64 cB_9 ?_
    exact r_pi C rfl dX5_mostOf_66
  · refine g_case (p0) 4 (fun c2 => ?_) (fun c2 => ?_)
    · refine g_tblIn C (pc := 1) 79 dX5_mostOf_1 c2 (rfl : (4 : Int32).toInt = 4) (by decide) (by decide) rfl (by decide) ?_
      refine g_bipush C (pc := 79) dX5_mostOf_79 cB_99 ?_
      exact r_pi C rfl dX5_mostOf_81
    · refine g_case (p0) 5 (fun c3 => ?_) (fun c3 => ?_)
      · refine g_tblIn C (pc := 1) 64 dX5_mostOf_1 c3 (rfl : (5 : Int32).toInt = 5) (by decide) (by decide) rfl (by decide) ?_
        refine g_bipush C (pc := 64) dX5_mostOf_64 cB_9 ?_
        exact r_pi C rfl dX5_mostOf_66
      · refine g_case (p0) 6 (fun c4 => ?_) (fun c4 => ?_)
        · refine g_tblIn C (pc := 1) 67 dX5_mostOf_1 c4 (rfl : (6 : Int32).toInt = 6) (by decide) (by decide) rfl (by decide) ?_
          refine g_iconst C (pc := 67) dX5_mostOf_67 cI_4 ?_
          exact r_pi C rfl dX5_mostOf_68
        · refine g_case (p0) 7 (fun c5 => ?_) (fun c5 => ?_)
          · refine g_tblIn C (pc := 1) 69 dX5_mostOf_1 c5 (rfl : (7 : Int32).toInt = 7) (by decide) (by decide) rfl (by decide) ?_
            refine g_iconst C (pc := 69) dX5_mostOf_69 cI_1 ?_
            exact r_pi C rfl dX5_mostOf_70
          · refine g_case (p0) 8 (fun c6 => ?_) (fun c6 => ?_)
            · refine g_tblIn C (pc := 1) 79 dX5_mostOf_1 c6 (rfl : (8 : Int32).toInt = 8) (by decide) (by decide) rfl (by decide) ?_
              refine g_bipush C (pc := 79) dX5_mostOf_79 cB_99 ?_
              exact r_pi C rfl dX5_mostOf_81
            · refine g_case (p0) 9 (fun c7 => ?_) (fun c7 => ?_)
              · refine g_tblIn C (pc := 1) 64 dX5_mostOf_1 c7 (rfl : (9 : Int32).toInt = 9) (by decide) (by decide) rfl (by decide) ?_
                refine g_bipush C (pc := 64) dX5_mostOf_64 cB_9 ?_
                exact r_pi C rfl dX5_mostOf_66
              · refine g_case (p0) 10 (fun c8 => ?_) (fun c8 => ?_)
                · refine g_tblIn C (pc := 1) 64 dX5_mostOf_1 c8 (rfl : (10 : Int32).toInt = 10) (by decide) (by decide) rfl (by decide) ?_
                  refine g_bipush C (pc := 64) dX5_mostOf_64 cB_9 ?_
                  exact r_pi C rfl dX5_mostOf_66
                · refine g_case (p0) 11 (fun c9 => ?_) (fun c9 => ?_)
                  · refine g_tblIn C (pc := 1) 71 dX5_mostOf_1 c9 (rfl : (11 : Int32).toInt = 11) (by decide) (by decide) rfl (by decide) ?_
                    refine g_sipush C (pc := 71) dX5_mostOf_71 cS_400 ?_
                    exact r_pi C rfl dX5_mostOf_74
                  · refine g_case (p0) 12 (fun c10 => ?_) (fun c10 => ?_)
                    · refine g_tblIn C (pc := 1) 69 dX5_mostOf_1 c10 (rfl : (12 : Int32).toInt = 12) (by decide) (by decide) rfl (by decide) ?_
                      refine g_iconst C (pc := 69) dX5_mostOf_69 cI_1 ?_
                      exact r_pi C rfl dX5_mostOf_70
                    · refine g_case (p0) 13 (fun c11 => ?_) (fun c11 => ?_)
                      · refine g_tblIn C (pc := 1) 69 dX5_mostOf_1 c11 (rfl : (13 : Int32).toInt = 13) (by decide) (by decide) rfl (by decide) ?_
                        refine g_iconst C (pc := 69) dX5_mostOf_69 cI_1 ?_
                        exact r_pi C rfl dX5_mostOf_70
                      · refine g_case (p0) 14 (fun c12 => ?_) (fun c12 => ?_)
                        · refine g_tblIn C (pc := 1) 75 dX5_mostOf_1 c12 (rfl : (14 : Int32).toInt = 14) (by decide) (by decide) rfl (by decide) ?_
                          refine g_sipush C (pc := 75) dX5_mostOf_75 cS_999 ?_
                          exact r_pi C rfl dX5_mostOf_78
                        · refine g_tblOut C (pc := 1) 79 dX5_mostOf_1 (by have q3 : ¬ (p0 : Int32).toInt = 3 := lv_neT c1 rfl; have q4 : ¬ (p0 : Int32).toInt = 4 := lv_neT c2 rfl; have q5 : ¬ (p0 : Int32).toInt = 5 := lv_neT c3 rfl; have q6 : ¬ (p0 : Int32).toInt = 6 := lv_neT c4 rfl; have q7 : ¬ (p0 : Int32).toInt = 7 := lv_neT c5 rfl; have q8 : ¬ (p0 : Int32).toInt = 8 := lv_neT c6 rfl; have q9 : ¬ (p0 : Int32).toInt = 9 := lv_neT c7 rfl; have q10 : ¬ (p0 : Int32).toInt = 10 := lv_neT c8 rfl; have q11 : ¬ (p0 : Int32).toInt = 11 := lv_neT c9 rfl; have q12 : ¬ (p0 : Int32).toInt = 12 := lv_neT c10 rfl; have q13 : ¬ (p0 : Int32).toInt = 13 := lv_neT c11 rfl; have q14 : ¬ (p0 : Int32).toInt = 14 := lv_neT c12 rfl; omega) (by decide) ?_
                          refine g_bipush C (pc := 79) dX5_mostOf_79 cB_99 ?_
                          exact r_pi C rfl dX5_mostOf_81

noncomputable def xX5_lesser (p0 : Int32) (p1 : Int32) : Int32 := if p1 ≤ p0 then (p1) else (p0)
set_option maxHeartbeats 4000000 in
set_option maxRecDepth 100000 in
theorem kX5_lesser (l : Launch) (D : va_G) (cA : ClassId) (T : Nat × Nat × Nat) (p0 : Int32) (p1 : Int32) : ∀ sz : Nat, Met l yX5_lesser wsX5_lesser { frames := 0, cells := 0, slots := 0, locals := 0 } (va_Pc [.int p0, .int p1] (PreW D cA T ([] : va_W) sz)) (va_Qi (fun r (_ : Unit) => r = (xX5_lesser p0 p1)) (fun _ => PostW D cA (va_A ([] : va_W) sz) ([] : va_W)) (va_A ([] : va_W) sz)) 0 0 (va_A ([] : va_W) sz) := by
  refine m_pi (cc := cX5_lesser) (maxL := 2) (own := RX5) (by decide) rfl rfl (Nat.le_of_ble_eq_true rfl) (fun {p e s m args below meth c} A C X => ?_)
  show G p l e { frames := 0, cells := 0, slots := 0, locals := 0 } s m args below meth c 0 0 D A (Qpi below D cA A args s ([] : va_W) X) 2 X (xX5_lesser p0 p1) ([] : va_W) 0 [(0, .int p0), (1, .int p1)] []
  unfold xX5_lesser
  refine g_iload_n C (pc := 0) dX5_lesser_0 0 rfl ?_
  refine g_iload_n C (pc := 1) dX5_lesser_1 1 rfl ?_
  refine g_icmp_ge C (pc := 2) 9 dX5_lesser_2 (by decide) (fun c1 => ?_) (fun c1 => ?_)
  · refine g_iload_n C (pc := 9) dX5_lesser_9 1 rfl ?_
    exact r_pi C rfl dX5_lesser_10
  · refine g_iload_n C (pc := 5) dX5_lesser_5 0 rfl ?_
    refine g_goto C (pc := 6) 10 dX5_lesser_6 (by decide) ?_
    exact r_pi C rfl dX5_lesser_10

noncomputable def xX5_amount (p0 : Int32) : Int32 := if 0 ≤ p0 then (p0) else ((-p0))
set_option maxHeartbeats 4000000 in
set_option maxRecDepth 100000 in
theorem kX5_amount (l : Launch) (D : va_G) (cA : ClassId) (T : Nat × Nat × Nat) (p0 : Int32) : ∀ sz : Nat, Met l yX5_amount wsX5_amount { frames := 0, cells := 0, slots := 0, locals := 0 } (va_Pc [.int p0] (PreW D cA T ([] : va_W) sz)) (va_Qi (fun r (_ : Unit) => r = (xX5_amount p0)) (fun _ => PostW D cA (va_A ([] : va_W) sz) ([] : va_W)) (va_A ([] : va_W) sz)) 0 0 (va_A ([] : va_W) sz) := by
  refine m_pi (cc := cX5_amount) (maxL := 1) (own := RX5) (by decide) rfl rfl (Nat.le_of_ble_eq_true rfl) (fun {p e s m args below meth c} A C X => ?_)
  show G p l e { frames := 0, cells := 0, slots := 0, locals := 0 } s m args below meth c 0 0 D A (Qpi below D cA A args s ([] : va_W) X) 1 X (xX5_amount p0) ([] : va_W) 0 [(0, .int p0)] []
  unfold xX5_amount
  refine g_iload_n C (pc := 0) dX5_amount_0 0 rfl ?_
  refine g_if_ge C (pc := 1) 9 dX5_amount_1 (by decide) (fun c1 => ?_) (fun c1 => ?_)
  · refine g_iload_n C (pc := 9) dX5_amount_9 0 rfl ?_
    exact r_pi C rfl dX5_amount_10
  · refine g_iload_n C (pc := 4) dX5_amount_4 0 rfl ?_
    refine g_ineg C (pc := 5) dX5_amount_5 ?_
    refine g_goto C (pc := 6) 10 dX5_amount_6 (by decide) ?_
    exact r_pi C rfl dX5_amount_10

noncomputable def xX5_wrongSorts (p0 : Int32) (p1 : Int32) : Int32 := if p0 < 0 then ((-4)) else (if 0 ≤ p1 then (if 999999 < p0 then ((-6)) else (if p1 ≤ 999999 then (0) else ((-6)))) else ((-4)))
set_option maxHeartbeats 4000000 in
set_option maxRecDepth 100000 in
theorem kX5_wrongSorts (l : Launch) (D : va_G) (cA : ClassId) (T : Nat × Nat × Nat) (p0 : Int32) (p1 : Int32) : ∀ sz : Nat, Met l yX5_wrongSorts wsX5_wrongSorts { frames := 0, cells := 0, slots := 0, locals := 0 } (va_Pc [.int p0, .int p1] (PreW D cA T ([] : va_W) sz)) (va_Qi (fun r (_ : Unit) => r = (xX5_wrongSorts p0 p1)) (fun _ => PostW D cA (va_A ([] : va_W) sz) ([] : va_W)) (va_A ([] : va_W) sz)) 0 0 (va_A ([] : va_W) sz) := by
  refine m_pi (cc := cX5_wrongSorts) (maxL := 2) (own := RX5) (by decide) rfl rfl (Nat.le_of_ble_eq_true rfl) (fun {p e s m args below meth c} A C X => ?_)
  show G p l e { frames := 0, cells := 0, slots := 0, locals := 0 } s m args below meth c 0 0 D A (Qpi below D cA A args s ([] : va_W) X) 2 X (xX5_wrongSorts p0 p1) ([] : va_W) 0 [(0, .int p0), (1, .int p1)] []
  unfold xX5_wrongSorts
  refine g_iload_n C (pc := 0) dX5_wrongSorts_0 0 rfl ?_
  refine g_if_lt C (pc := 1) 8 dX5_wrongSorts_1 (by decide) (fun c1 => ?_) (fun c1 => ?_)
  · refine g_bipush C (pc := 8) dX5_wrongSorts_8 cB_m4 ?_
    refine g_goto C (pc := 10) 31 dX5_wrongSorts_10 (by decide) ?_
    exact r_pi C rfl dX5_wrongSorts_31
  · refine g_iload_n C (pc := 4) dX5_wrongSorts_4 1 rfl ?_
    refine g_if_ge C (pc := 5) 13 dX5_wrongSorts_5 (by decide) (fun c2 => ?_) (fun c2 => ?_)
    · refine g_iload_n C (pc := 13) dX5_wrongSorts_13 0 rfl ?_
      refine g_ldc C (pc := 14) (v := 999999) dX5_wrongSorts_14 (List.mem_of_getElem? (i := 1) rfl) ?_
      refine g_icmp_gt C (pc := 16) 25 dX5_wrongSorts_16 (by decide) (fun c3 => ?_) (fun c3 => ?_)
      · refine g_bipush C (pc := 25) dX5_wrongSorts_25 cB_m6 ?_
        refine g_goto C (pc := 27) 31 dX5_wrongSorts_27 (by decide) ?_
        exact r_pi C rfl dX5_wrongSorts_31
      · refine g_iload_n C (pc := 19) dX5_wrongSorts_19 1 rfl ?_
        refine g_ldc C (pc := 20) (v := 999999) dX5_wrongSorts_20 (List.mem_of_getElem? (i := 1) rfl) ?_
        refine g_icmp_le C (pc := 22) 30 dX5_wrongSorts_22 (by decide) (fun c4 => ?_) (fun c4 => ?_)
        · refine g_iconst C (pc := 30) dX5_wrongSorts_30 cI_0 ?_
          exact r_pi C rfl dX5_wrongSorts_31
        · refine g_bipush C (pc := 25) dX5_wrongSorts_25 cB_m6 ?_
          refine g_goto C (pc := 27) 31 dX5_wrongSorts_27 (by decide) ?_
          exact r_pi C rfl dX5_wrongSorts_31
    · refine g_bipush C (pc := 8) dX5_wrongSorts_8 cB_m4 ?_
      refine g_goto C (pc := 10) 31 dX5_wrongSorts_10 (by decide) ?_
      exact r_pi C rfl dX5_wrongSorts_31

noncomputable def xX5_copies_l2 : Nat → St → Int32 → St
  | 0, M2, _ => (M2)
  | k + 1, M2, v1 => if 151 ≤ v1 then (M2) else (nm (sa M2 1 (up (M2 1) ((v1 : Int32).toNatClampNeg) (M2 0 (v1 : Int32).toNatClampNeg))) fun M4 => nm (v1 + 1 : Int32) fun x5 => xX5_copies_l2 k M4 x5)
noncomputable def xX5_copies (M : St) : St := xX5_copies_l2 (mu 0 151 + 1) M 0
set_option maxHeartbeats 4000000 in
set_option maxRecDepth 100000 in
theorem kX5_copies (l : Launch) (D : va_G) (cA : ClassId) (T : Nat × Nat × Nat) (h : Nat → Nat) (M : St) (hz : (Zarr2 M)) : ∀ sz : Nat, Met l yX5_copies wsX5_copies { frames := 0, cells := 0, slots := 0, locals := 0 } (va_Pc [.ref (h 0), .ref (h 1)] (PreW D cA T (arr2W cA h M) sz)) (va_Qv (fun u => u = (xX5_copies M) ∧ (Zarr2) u) (fun u => PostW D cA (va_A (arr2W cA h M) sz) (arr2W cA h u)) (va_A (arr2W cA h M) sz)) 0 0 (va_A (arr2W cA h M) sz) := by
  refine m_ev (Wf := arr2W cA h) (inv := (Zarr2)) (cc := cX5_copies) (maxL := 3) (own := RX5) (by decide) rfl rfl (Nat.le_of_ble_eq_true rfl) (fun {p e s m args below meth c} A C X => ?_)
  show G p l e { frames := 0, cells := 0, slots := 0, locals := 0 } s m args below meth c 0 0 D A (Qev below D cA A args s 0 0 (arr2W cA h) (Zarr2) X) 3 X (xX5_copies M) (arr2W cA h M) 0 [(0, .ref (h 0)), (1, .ref (h 1))] []
  unfold xX5_copies
  refine g_iconst C (pc := 0) dX5_copies_0 cI_0 ?_
  refine g_istore_n C (pc := 1) [(2, .int 0), (0, .ref (h 0)), (1, .ref (h 1))] dX5_copies_1 (by decide) rfl ?_
  have L2 : ∀ (k : Nat) (M2 : St) (v1 : Int32), (Zarr2 M2) → 0 ≤ (v1 : Int32).toInt → mu v1 151 < k → G p l e { frames := 0, cells := 0, slots := 0, locals := 0 } s m args below meth c 0 0 D A (Qev below D cA A args s 0 0 (arr2W cA h) (Zarr2) X) 3 X (xX5_copies_l2 k M2 v1) (arr2W cA h M2) 2 [(0, .ref (h 0)), (1, .ref (h 1)), (2, .int v1)] [] := by
    intro k
    induction k with
    | zero => intro M2 v1 hz2 hi hmu; exact absurd hmu (Nat.not_lt_zero _)
    | succ k ih =>
      intro M2 v1 hz2 hi hmu
      rw [xX5_copies_l2]
      refine g_iload_n C (pc := 2) dX5_copies_2 2 rfl ?_
      refine g_sipush C (pc := 3) dX5_copies_3 cS_151 ?_
      refine g_icmp_ge C (pc := 6) 21 dX5_copies_6 (by decide) (fun c3 => ?_) (fun c3 => ?_)
      · exact r_ev C rfl dX5_copies_21 hz2
      · refine g_aload_n C (pc := 9) dX5_copies_9 1 rfl ?_
        refine g_iload_n C (pc := 10) dX5_copies_10 2 rfl ?_
        refine g_aload_n C (pc := 11) dX5_copies_11 0 rfl ?_
        refine g_iload_n C (pc := 12) dX5_copies_12 2 rfl ?_
        refine g_iald C (pc := 13) dX5_copies_13 0 rfl (fi_in hi c3) (M2 0 (v1 : Int32).toNatClampNeg) rfl ?_
        refine g_iast C (pc := 14) dX5_copies_14 1 rfl (fi_in hi c3) ((v1 : Int32).toNatClampNeg) rfl (arr2W cA h) (sa M2 1 (up (M2 1) ((v1 : Int32).toNatClampNeg) (M2 0 (v1 : Int32).toNatClampNeg))) rfl (fun M4 eM4 => ?_)
        have hz4 : (Zarr2 M4) := by rw [eM4]; exact hz2
        refine g_iincN C (pc := 15) 1 (fun y => [(2, .int y), (0, .ref (h 0)), (1, .ref (h 1))]) dX5_copies_15 2 rfl cI_1 (by decide) (fun _ => rfl) (fun x5 ex5 => ?_)
        refine g_goto C (pc := 18) 2 dX5_copies_18 (by decide) ?_
        refine g_sub [1, 2, 0] rfl ?_
        exact ih M4 x5 hz4 (by rw [ex5]; exact ge_step hi c3) (by rw [ex5]; exact lp_dec c3 hmu)
  refine g_sub [1, 2, 0] rfl ?_
  exact L2 _ M 0 hz (by decide) (Nat.lt_succ_self _)

noncomputable def xX5_freshens_l8 : Nat → St → Int32 → St
  | 0, M3, _ => (M3)
  | k + 1, M3, v2 => if 28 < v2 then (nm (sa M3 1 (up (M3 1) 16 (M3 0 11))) fun M5 => nm (sa M5 1 (up (M5 1) 17 (M5 0 11))) fun M6 => nm (sa M6 1 (up (M6 1) 18 (xX5_lesser 500 (100 * (M6 0 0))))) fun M7 => nm (sa M7 1 (up (M7 1) 89 0)) fun M8 => nm (sa M8 1 (up (M8 1) 150 0)) fun M9 => M9) else (nm (sa M3 1 (up (M3 1) ((v2 : Int32).toNatClampNeg) 0)) fun M10 => nm (v2 + 1 : Int32) fun x11 => xX5_freshens_l8 k M10 x11)
noncomputable def xX5_freshens (M : St) : St := nm (xX5_copies M) fun M1 => xX5_freshens_l8 (muE 16 28 + 1) M1 16
set_option maxHeartbeats 4000000 in
set_option maxRecDepth 100000 in
theorem kX5_freshens (l : Launch) (D : va_G) (cA : ClassId) (T : Nat × Nat × Nat) (h : Nat → Nat) (M : St) (hz : (Zarr2 M)) : ∀ sz : Nat, Met l yX5_freshens wsX5_freshens { frames := 1, cells := 0, slots := 0, locals := 22 } (va_Pc [.ref (h 0), .ref (h 1)] (PreW D cA T (arr2W cA h M) sz)) (va_Qv (fun u => u = (xX5_freshens M) ∧ (Zarr2) u) (fun u => PostW D cA (va_A (arr2W cA h M) sz) (arr2W cA h u)) (va_A (arr2W cA h M) sz)) 0 0 (va_A (arr2W cA h M) sz) := by
  refine m_ev (Wf := arr2W cA h) (inv := (Zarr2)) (cc := cX5_freshens) (maxL := 3) (own := RX5) (by decide) rfl rfl (Nat.le_of_ble_eq_true rfl) (fun {p e s m args below meth c} A C X => ?_)
  show G p l e { frames := 1, cells := 0, slots := 0, locals := 22 } s m args below meth c 0 0 D A (Qev below D cA A args s 0 0 (arr2W cA h) (Zarr2) X) 3 X (xX5_freshens M) (arr2W cA h M) 0 [(0, .ref (h 0)), (1, .ref (h 1))] []
  unfold xX5_freshens
  refine g_aload_n C (pc := 0) dX5_freshens_0 0 rfl ?_
  refine g_aload_n C (pc := 1) dX5_freshens_1 1 rfl ?_
  refine g_Sev C (pc := 2) (As := [.ref (h 0), .ref (h 1)]) (kX5_copies l D cA T h M hz) (v_id (arr2W cA h) M 2 (fun _ => rfl) rfl) gX5_freshens_X5_copies rfl ⟨rfl, rfl⟩ ⟨Nat.le_of_ble_eq_true rfl, Nat.le_of_ble_eq_true rfl⟩ ⟨Nat.zero_le _, Nat.zero_le _⟩ rfl (Nat.le_of_ble_eq_true rfl) hdS_X5_copies rfl dX5_freshens_2 (fun M1 eM1 hz_M1 => ?_)
  have hz1 := hz_M1
  refine g_bipush C (pc := 5) dX5_freshens_5 cB_16 ?_
  refine g_istore_n C (pc := 7) [(2, .int 16), (0, .ref (h 0)), (1, .ref (h 1))] dX5_freshens_7 (by decide) rfl ?_
  have L8 : ∀ (k : Nat) (M3 : St) (v2 : Int32), (Zarr2 M3) → 16 ≤ (v2 : Int32).toInt → muE v2 28 < k → G p l e { frames := 1, cells := 0, slots := 0, locals := 22 } s m args below meth c 0 0 D A (Qev below D cA A args s 0 0 (arr2W cA h) (Zarr2) X) 3 X (xX5_freshens_l8 k M3 v2) (arr2W cA h M3) 8 [(0, .ref (h 0)), (1, .ref (h 1)), (2, .int v2)] [] := by
    intro k
    induction k with
    | zero => intro M3 v2 hz3 hi hmu; exact absurd hmu (Nat.not_lt_zero _)
    | succ k ih =>
      intro M3 v2 hz3 hi hmu
      rw [xX5_freshens_l8]
      refine g_iload_n C (pc := 8) dX5_freshens_8 2 rfl ?_
      refine g_bipush C (pc := 9) dX5_freshens_9 cB_28 ?_
      refine g_icmp_gt C (pc := 11) 24 dX5_freshens_11 (by decide) (fun c4 => ?_) (fun c4 => ?_)
      · refine g_aload_n C (pc := 24) dX5_freshens_24 1 rfl ?_
        refine g_bipush C (pc := 25) dX5_freshens_25 cB_16 ?_
        refine g_aload_n C (pc := 27) dX5_freshens_27 0 rfl ?_
        refine g_bipush C (pc := 28) dX5_freshens_28 cB_11 ?_
        refine g_iald C (pc := 30) dX5_freshens_30 0 rfl inb_11_151 (M3 0 11) (congrArg (M3 0) tn_11) ?_
        refine g_iast C (pc := 31) dX5_freshens_31 1 rfl inb_16_151 (16) tn_16 (arr2W cA h) (sa M3 1 (up (M3 1) 16 (M3 0 11))) rfl (fun M5 eM5 => ?_)
        have hz5 : (Zarr2 M5) := by rw [eM5]; exact hz3
        refine g_aload_n C (pc := 32) dX5_freshens_32 1 rfl ?_
        refine g_bipush C (pc := 33) dX5_freshens_33 cB_17 ?_
        refine g_aload_n C (pc := 35) dX5_freshens_35 0 rfl ?_
        refine g_bipush C (pc := 36) dX5_freshens_36 cB_11 ?_
        refine g_iald C (pc := 38) dX5_freshens_38 0 rfl inb_11_151 (M5 0 11) (congrArg (M5 0) tn_11) ?_
        refine g_iast C (pc := 39) dX5_freshens_39 1 rfl inb_17_151 (17) tn_17 (arr2W cA h) (sa M5 1 (up (M5 1) 17 (M5 0 11))) rfl (fun M6 eM6 => ?_)
        have hz6 : (Zarr2 M6) := by rw [eM6]; exact hz5
        refine g_aload_n C (pc := 40) dX5_freshens_40 1 rfl ?_
        refine g_bipush C (pc := 41) dX5_freshens_41 cB_18 ?_
        refine g_sipush C (pc := 43) dX5_freshens_43 cS_500 ?_
        refine g_bipush C (pc := 46) dX5_freshens_46 cB_100 ?_
        refine g_aload_n C (pc := 48) dX5_freshens_48 0 rfl ?_
        refine g_iconst C (pc := 49) dX5_freshens_49 cI_0 ?_
        refine g_iald C (pc := 50) dX5_freshens_50 0 rfl inb_0_151 (M6 0 0) (congrArg (M6 0) tn_0) ?_
        refine g_imul C (pc := 51) dX5_freshens_51 ?_
        refine g_Spi C (pc := 52) (As := [.int 500, .int (100 * (M6 0 0))]) (kX5_lesser l D cA T 500 (100 * (M6 0 0))) (v_none (arr2W cA h M6) 2 rfl rfl) gX5_freshens_X5_lesser rfl ⟨rfl, rfl⟩ ⟨Nat.le_of_ble_eq_true rfl, Nat.le_of_ble_eq_true rfl⟩ ⟨Nat.zero_le _, Nat.zero_le _⟩ rfl (Nat.le_of_ble_eq_true rfl) hdS_X5_lesser rfl dX5_freshens_52 ?_
        refine g_iast C (pc := 55) dX5_freshens_55 1 rfl inb_18_151 (18) tn_18 (arr2W cA h) (sa M6 1 (up (M6 1) 18 (xX5_lesser 500 (100 * (M6 0 0))))) rfl (fun M7 eM7 => ?_)
        have hz7 : (Zarr2 M7) := by rw [eM7]; exact hz6
        refine g_aload_n C (pc := 56) dX5_freshens_56 1 rfl ?_
        refine g_bipush C (pc := 57) dX5_freshens_57 cB_89 ?_
        refine g_iconst C (pc := 59) dX5_freshens_59 cI_0 ?_
        refine g_iast C (pc := 60) dX5_freshens_60 1 rfl inb_89_151 (89) tn_89 (arr2W cA h) (sa M7 1 (up (M7 1) 89 0)) rfl (fun M8 eM8 => ?_)
        have hz8 : (Zarr2 M8) := by rw [eM8]; exact hz7
        refine g_aload_n C (pc := 61) dX5_freshens_61 1 rfl ?_
        refine g_sipush C (pc := 62) dX5_freshens_62 cS_150 ?_
        refine g_iconst C (pc := 65) dX5_freshens_65 cI_0 ?_
        refine g_iast C (pc := 66) dX5_freshens_66 1 rfl inb_150_151 (150) tn_150 (arr2W cA h) (sa M8 1 (up (M8 1) 150 0)) rfl (fun M9 eM9 => ?_)
        have hz9 : (Zarr2 M9) := by rw [eM9]; exact hz8
        exact r_ev C rfl dX5_freshens_67 hz9
      · refine g_aload_n C (pc := 14) dX5_freshens_14 1 rfl ?_
        refine g_iload_n C (pc := 15) dX5_freshens_15 2 rfl ?_
        refine g_iconst C (pc := 16) dX5_freshens_16 cI_0 ?_
        refine g_iast C (pc := 17) dX5_freshens_17 1 rfl (fi_inE hi c4) ((v2 : Int32).toNatClampNeg) rfl (arr2W cA h) (sa M3 1 (up (M3 1) ((v2 : Int32).toNatClampNeg) 0)) rfl (fun M10 eM10 => ?_)
        have hz10 : (Zarr2 M10) := by rw [eM10]; exact hz3
        refine g_iincN C (pc := 18) 1 (fun y => [(2, .int y), (0, .ref (h 0)), (1, .ref (h 1))]) dX5_freshens_18 2 rfl cI_1 (by decide) (fun _ => rfl) (fun x11 ex11 => ?_)
        refine g_goto C (pc := 21) 8 dX5_freshens_21 (by decide) ?_
        refine g_sub [1, 2, 0] rfl ?_
        exact ih M10 x11 hz10 (by rw [ex11]; exact ge_stepE hi c4) (by rw [ex11]; exact lp_decE (d := 1) (by decide) (by decide) c4 hmu)
  refine g_sub [1, 2, 0] rfl ?_
  exact L8 _ M1 16 hz1 (by decide) (Nat.lt_succ_self _)

noncomputable def xX5_gapOf (M : St) (p1 : Int32) : Int32 := ((M 0 (((29 + p1) + 1) : Int32).toNatClampNeg) - (M 0 ((29 + p1) : Int32).toNatClampNeg))
set_option maxHeartbeats 4000000 in
set_option maxRecDepth 100000 in
theorem kX5_gapOf (l : Launch) (D : va_G) (cA : ClassId) (T : Nat × Nat × Nat) (h : Nat → Nat) (M : St) (p1 : Int32) (hz : (Zarr0 M)) (hp : 0 ≤ p1.toInt ∧ p1.toInt ≤ 60) : ∀ sz : Nat, Met l yX5_gapOf wsX5_gapOf { frames := 0, cells := 0, slots := 0, locals := 0 } (va_Pc [.ref (h 0), .int p1] (PreW D cA T (arr0W cA h M) sz)) (va_Qi (fun r (_ : Unit) => r = (xX5_gapOf M p1)) (fun _ => PostW D cA (va_A (arr0W cA h M) sz) (arr0W cA h M)) (va_A (arr0W cA h M) sz)) 0 0 (va_A (arr0W cA h M) sz) := by
  refine m_pi (cc := cX5_gapOf) (maxL := 2) (own := RX5) (by decide) rfl rfl (Nat.le_of_ble_eq_true rfl) (fun {p e s m args below meth c} A C X => ?_)
  show G p l e { frames := 0, cells := 0, slots := 0, locals := 0 } s m args below meth c 0 0 D A (Qpi below D cA A args s (arr0W cA h M) X) 2 X (xX5_gapOf M p1) (arr0W cA h M) 0 [(0, .ref (h 0)), (1, .int p1)] []
  unfold xX5_gapOf
  refine g_aload_n C (pc := 0) dX5_gapOf_0 0 rfl ?_
  refine g_bipush C (pc := 1) dX5_gapOf_1 cB_29 ?_
  refine g_iload_n C (pc := 3) dX5_gapOf_3 1 rfl ?_
  refine g_iadd C (pc := 4) dX5_gapOf_4 ?_
  refine g_iconst C (pc := 5) dX5_gapOf_5 cI_1 ?_
  refine g_iadd C (pc := 6) dX5_gapOf_6 ?_
  refine g_iald C (pc := 7) dX5_gapOf_7 0 rfl (ga_in1 hp) (M 0 (((29 + p1) + 1) : Int32).toNatClampNeg) rfl ?_
  refine g_aload_n C (pc := 8) dX5_gapOf_8 0 rfl ?_
  refine g_bipush C (pc := 9) dX5_gapOf_9 cB_29 ?_
  refine g_iload_n C (pc := 11) dX5_gapOf_11 1 rfl ?_
  refine g_iadd C (pc := 12) dX5_gapOf_12 ?_
  refine g_iald C (pc := 13) dX5_gapOf_13 0 rfl (ga_in0 hp) (M 0 ((29 + p1) : Int32).toNatClampNeg) rfl ?_
  refine g_isub C (pc := 14) dX5_gapOf_14 ?_
  exact r_pi C rfl dX5_gapOf_15

noncomputable def xX5_fullOf (M : St) : Int32 := (((M 0 2) * (M 0 1)) + (10 * (M 0 5)))
set_option maxHeartbeats 4000000 in
set_option maxRecDepth 100000 in
theorem kX5_fullOf (l : Launch) (D : va_G) (cA : ClassId) (T : Nat × Nat × Nat) (h : Nat → Nat) (M : St) (hz : (Zarr1 M)) : ∀ sz : Nat, Met l yX5_fullOf wsX5_fullOf { frames := 0, cells := 0, slots := 0, locals := 0 } (va_Pc [.ref (h 0)] (PreW D cA T (arr1W cA h M) sz)) (va_Qi (fun r (_ : Unit) => r = (xX5_fullOf M)) (fun _ => PostW D cA (va_A (arr1W cA h M) sz) (arr1W cA h M)) (va_A (arr1W cA h M) sz)) 0 0 (va_A (arr1W cA h M) sz) := by
  refine m_pi (cc := cX5_fullOf) (maxL := 1) (own := RX5) (by decide) rfl rfl (Nat.le_of_ble_eq_true rfl) (fun {p e s m args below meth c} A C X => ?_)
  show G p l e { frames := 0, cells := 0, slots := 0, locals := 0 } s m args below meth c 0 0 D A (Qpi below D cA A args s (arr1W cA h M) X) 1 X (xX5_fullOf M) (arr1W cA h M) 0 [(0, .ref (h 0))] []
  unfold xX5_fullOf
  refine g_aload_n C (pc := 0) dX5_fullOf_0 0 rfl ?_
  refine g_iconst C (pc := 1) dX5_fullOf_1 cI_2 ?_
  refine g_iald C (pc := 2) dX5_fullOf_2 0 rfl inb_2_151 (M 0 2) (congrArg (M 0) tn_2) ?_
  refine g_aload_n C (pc := 3) dX5_fullOf_3 0 rfl ?_
  refine g_iconst C (pc := 4) dX5_fullOf_4 cI_1 ?_
  refine g_iald C (pc := 5) dX5_fullOf_5 0 rfl inb_1_151 (M 0 1) (congrArg (M 0) tn_1) ?_
  refine g_imul C (pc := 6) dX5_fullOf_6 ?_
  refine g_bipush C (pc := 7) dX5_fullOf_7 cB_10 ?_
  refine g_aload_n C (pc := 9) dX5_fullOf_9 0 rfl ?_
  refine g_iconst C (pc := 10) dX5_fullOf_10 cI_5 ?_
  refine g_iald C (pc := 11) dX5_fullOf_11 0 rfl inb_5_151 (M 0 5) (congrArg (M 0) tn_5) ?_
  refine g_imul C (pc := 12) dX5_fullOf_12 ?_
  refine g_iadd C (pc := 13) dX5_fullOf_13 ?_
  exact r_pi C rfl dX5_fullOf_14

noncomputable def xX5_airOf_l9 : Nat → St → Int32 → Int32 → Int32 → Int32 → Int32
  | 0, M, _, _, _, _ => (0)
  | k + 1, M, p1, v3, v4, v5 => if (M 0 150) ≤ v5 then (v3) else (nm ((90 + (3 * v5)) : Int32) fun x7 => if (M 0 (x7 : Int32).toNatClampNeg) = p1 then (if (M 0 22) < (M 0 ((x7 + 1) : Int32).toNatClampNeg) then (nm (v5 + 1 : Int32) fun x11 => xX5_airOf_l9 k M p1 v3 v4 x11) else (if v4 ≤ (M 0 ((x7 + 1) : Int32).toNatClampNeg) then (nm ((M 0 ((x7 + 1) : Int32).toNatClampNeg) : Int32) fun x13 => nm ((M 0 ((x7 + 2) : Int32).toNatClampNeg) : Int32) fun x14 => nm (v5 + 1 : Int32) fun x15 => xX5_airOf_l9 k M p1 x14 x13 x15) else (nm (v5 + 1 : Int32) fun x16 => xX5_airOf_l9 k M p1 v3 v4 x16))) else (nm (v5 + 1 : Int32) fun x9 => xX5_airOf_l9 k M p1 v3 v4 x9))
noncomputable def xX5_airOf (M : St) (p1 : Int32) : Int32 := nm ((M 0 (p1 : Int32).toNatClampNeg) : Int32) fun x1 => nm ((-1) : Int32) fun x2 => xX5_airOf_l9 (mu 0 (M 0 150) + 1) M p1 x1 x2 0
set_option maxHeartbeats 4000000 in
set_option maxRecDepth 100000 in
theorem kX5_airOf (l : Launch) (D : va_G) (cA : ClassId) (T : Nat × Nat × Nat) (h : Nat → Nat) (M : St) (p1 : Int32) (hz : (Zarr1 M)) (hp : vp_in p1 151) : ∀ sz : Nat, Met l yX5_airOf wsX5_airOf { frames := 0, cells := 0, slots := 0, locals := 0 } (va_Pc [.ref (h 0), .int p1] (PreW D cA T (arr1W cA h M) sz)) (va_Qi (fun r (_ : Unit) => r = (xX5_airOf M p1)) (fun _ => PostW D cA (va_A (arr1W cA h M) sz) (arr1W cA h M)) (va_A (arr1W cA h M) sz)) 0 0 (va_A (arr1W cA h M) sz) := by
  refine m_pi (cc := cX5_airOf) (maxL := 6) (own := RX5) (by decide) rfl rfl (Nat.le_of_ble_eq_true rfl) (fun {p e s m args below meth c} A C X => ?_)
  show G p l e { frames := 0, cells := 0, slots := 0, locals := 0 } s m args below meth c 0 0 D A (Qpi below D cA A args s (arr1W cA h M) X) 6 X (xX5_airOf M p1) (arr1W cA h M) 0 [(0, .ref (h 0)), (1, .int p1)] []
  unfold xX5_airOf
  refine g_aload_n C (pc := 0) dX5_airOf_0 0 rfl ?_
  refine g_iload_n C (pc := 1) dX5_airOf_1 1 rfl ?_
  refine g_iald C (pc := 2) dX5_airOf_2 0 rfl hp (M 0 (p1 : Int32).toNatClampNeg) rfl ?_
  refine g_nmi (fun x1 ex1 => ?_)
  refine g_istore_n C (pc := 3) [(2, .int x1), (0, .ref (h 0)), (1, .int p1)] dX5_airOf_3 (by decide) rfl ?_
  refine g_iconst C (pc := 4) dX5_airOf_4 cI_m1 ?_
  refine g_nmi (fun x2 ex2 => ?_)
  refine g_istore_n C (pc := 5) [(3, .int x2), (2, .int x1), (0, .ref (h 0)), (1, .int p1)] dX5_airOf_5 (by decide) rfl ?_
  refine g_iconst C (pc := 6) dX5_airOf_6 cI_0 ?_
  refine g_istore C (pc := 7) [(4, .int 0), (3, .int x2), (2, .int x1), (0, .ref (h 0)), (1, .int p1)] dX5_airOf_7 (by decide) rfl ?_
  have L9 : ∀ (k : Nat) (v3 : Int32) (v4 : Int32) (v5 : Int32), 0 ≤ (v5 : Int32).toInt → mu v5 (M 0 150) < k → G p l e { frames := 0, cells := 0, slots := 0, locals := 0 } s m args below meth c 0 0 D A (Qpi below D cA A args s (arr1W cA h M) X) 6 X (xX5_airOf_l9 k M p1 v3 v4 v5) (arr1W cA h M) 9 [(0, .ref (h 0)), (1, .int p1), (2, .int v3), (3, .int v4), (4, .int v5)] [] := by
    intro k
    induction k with
    | zero => intro v3 v4 v5 hi hmu; exact absurd hmu (Nat.not_lt_zero _)
    | succ k ih =>
      intro v3 v4 v5 hi hmu
      rw [xX5_airOf_l9]
      refine g_iload C (pc := 9) dX5_airOf_9 4 rfl ?_
      refine g_aload_n C (pc := 11) dX5_airOf_11 0 rfl ?_
      refine g_sipush C (pc := 12) dX5_airOf_12 cS_150 ?_
      refine g_iald C (pc := 15) dX5_airOf_15 0 rfl inb_150_151 (M 0 150) (congrArg (M 0) tn_150) ?_
      refine g_icmp_ge C (pc := 16) 82 dX5_airOf_16 (by decide) (fun c6 => ?_) (fun c6 => ?_)
      · refine g_iload_n C (pc := 82) dX5_airOf_82 2 rfl ?_
        exact r_pi C rfl dX5_airOf_83
      · refine g_bipush C (pc := 19) dX5_airOf_19 cB_90 ?_
        refine g_iconst C (pc := 21) dX5_airOf_21 cI_3 ?_
        refine g_iload C (pc := 22) dX5_airOf_22 4 rfl ?_
        refine g_imul C (pc := 24) dX5_airOf_24 ?_
        refine g_iadd C (pc := 25) dX5_airOf_25 ?_
        refine g_nmi (fun x7 ex7 => ?_)
        refine g_istore C (pc := 26) [(5, .int x7), (0, .ref (h 0)), (1, .int p1), (2, .int v3), (3, .int v4), (4, .int v5)] dX5_airOf_26 (by decide) rfl ?_
        refine g_aload_n C (pc := 28) dX5_airOf_28 1 rfl ?_
        refine g_iload C (pc := 29) dX5_airOf_29 0 rfl ?_
        refine g_iald C (pc := 31) dX5_airOf_31 0 rfl (ao_in0 hz hi c6 ex7) (M 0 (x7 : Int32).toNatClampNeg) rfl ?_
        refine g_iload_n C (pc := 32) dX5_airOf_32 2 rfl ?_
        refine g_icmp_ne C (pc := 33) 76 dX5_airOf_33 (by decide) (fun c8 => ?_) (fun c8 => ?_)
        · refine g_iincN C (pc := 76) 1 (fun y => [(4, .int y), (5, .int x7), (0, .ref (h 0)), (1, .int p1), (2, .int v3), (3, .int v4)]) dX5_airOf_76 5 rfl cI_1 (by decide) (fun _ => rfl) (fun x9 ex9 => ?_)
          refine g_goto C (pc := 79) 9 dX5_airOf_79 (by decide) ?_
          refine g_sub [2, 3, 4, 5, 0] rfl ?_
          exact ih v3 v4 x9 (by rw [ex9]; exact ge_step hi c6) (by rw [ex9]; exact lp_dec c6 hmu)
        · refine g_aload_n C (pc := 36) dX5_airOf_36 1 rfl ?_
          refine g_iload C (pc := 37) dX5_airOf_37 0 rfl ?_
          refine g_iconst C (pc := 39) dX5_airOf_39 cI_1 ?_
          refine g_iadd C (pc := 40) dX5_airOf_40 ?_
          refine g_iald C (pc := 41) dX5_airOf_41 0 rfl (ao_in1 hz hi c6 ex7) (M 0 ((x7 + 1) : Int32).toNatClampNeg) rfl ?_
          refine g_aload_n C (pc := 42) dX5_airOf_42 1 rfl ?_
          refine g_bipush C (pc := 43) dX5_airOf_43 cB_22 ?_
          refine g_iald C (pc := 45) dX5_airOf_45 0 rfl inb_22_151 (M 0 22) (congrArg (M 0) tn_22) ?_
          refine g_icmp_gt C (pc := 46) 76 dX5_airOf_46 (by decide) (fun c10 => ?_) (fun c10 => ?_)
          · refine g_iincN C (pc := 76) 1 (fun y => [(4, .int y), (5, .int x7), (0, .ref (h 0)), (1, .int p1), (2, .int v3), (3, .int v4)]) dX5_airOf_76 5 rfl cI_1 (by decide) (fun _ => rfl) (fun x11 ex11 => ?_)
            refine g_goto C (pc := 79) 9 dX5_airOf_79 (by decide) ?_
            refine g_sub [2, 3, 4, 5, 0] rfl ?_
            exact ih v3 v4 x11 (by rw [ex11]; exact ge_step hi c6) (by rw [ex11]; exact lp_dec c6 hmu)
          · refine g_aload_n C (pc := 49) dX5_airOf_49 1 rfl ?_
            refine g_iload C (pc := 50) dX5_airOf_50 0 rfl ?_
            refine g_iconst C (pc := 52) dX5_airOf_52 cI_1 ?_
            refine g_iadd C (pc := 53) dX5_airOf_53 ?_
            refine g_iald C (pc := 54) dX5_airOf_54 0 rfl (ao_in1 hz hi c6 ex7) (M 0 ((x7 + 1) : Int32).toNatClampNeg) rfl ?_
            refine g_iload_n C (pc := 55) dX5_airOf_55 4 rfl ?_
            refine g_icmp_ge C (pc := 56) 62 dX5_airOf_56 (by decide) (fun c12 => ?_) (fun c12 => ?_)
            · refine g_aload_n C (pc := 62) dX5_airOf_62 1 rfl ?_
              refine g_iload C (pc := 63) dX5_airOf_63 0 rfl ?_
              refine g_iconst C (pc := 65) dX5_airOf_65 cI_1 ?_
              refine g_iadd C (pc := 66) dX5_airOf_66 ?_
              refine g_iald C (pc := 67) dX5_airOf_67 0 rfl (ao_in1 hz hi c6 ex7) (M 0 ((x7 + 1) : Int32).toNatClampNeg) rfl ?_
              refine g_nmi (fun x13 ex13 => ?_)
              refine g_istore_n C (pc := 68) [(3, .int x13), (5, .int x7), (0, .ref (h 0)), (1, .int p1), (2, .int v3), (4, .int v5)] dX5_airOf_68 (by decide) rfl ?_
              refine g_aload_n C (pc := 69) dX5_airOf_69 2 rfl ?_
              refine g_iload C (pc := 70) dX5_airOf_70 1 rfl ?_
              refine g_iconst C (pc := 72) dX5_airOf_72 cI_2 ?_
              refine g_iadd C (pc := 73) dX5_airOf_73 ?_
              refine g_iald C (pc := 74) dX5_airOf_74 0 rfl (ao_in2 hz hi c6 ex7) (M 0 ((x7 + 2) : Int32).toNatClampNeg) rfl ?_
              refine g_nmi (fun x14 ex14 => ?_)
              refine g_istore_n C (pc := 75) [(2, .int x14), (3, .int x13), (5, .int x7), (0, .ref (h 0)), (1, .int p1), (4, .int v5)] dX5_airOf_75 (by decide) rfl ?_
              refine g_iincN C (pc := 76) 1 (fun y => [(4, .int y), (2, .int x14), (3, .int x13), (5, .int x7), (0, .ref (h 0)), (1, .int p1)]) dX5_airOf_76 5 rfl cI_1 (by decide) (fun _ => rfl) (fun x15 ex15 => ?_)
              refine g_goto C (pc := 79) 9 dX5_airOf_79 (by decide) ?_
              refine g_sub [4, 5, 1, 2, 0] rfl ?_
              exact ih x14 x13 x15 (by rw [ex15]; exact ge_step hi c6) (by rw [ex15]; exact lp_dec c6 hmu)
            · refine g_goto C (pc := 59) 76 dX5_airOf_59 (by decide) ?_
              refine g_iincN C (pc := 76) 1 (fun y => [(4, .int y), (5, .int x7), (0, .ref (h 0)), (1, .int p1), (2, .int v3), (3, .int v4)]) dX5_airOf_76 5 rfl cI_1 (by decide) (fun _ => rfl) (fun x16 ex16 => ?_)
              refine g_goto C (pc := 79) 9 dX5_airOf_79 (by decide) ?_
              refine g_sub [2, 3, 4, 5, 0] rfl ?_
              exact ih v3 v4 x16 (by rw [ex16]; exact ge_step hi c6) (by rw [ex16]; exact lp_dec c6 hmu)
  refine g_sub [3, 4, 2, 1, 0] rfl ?_
  exact L9 _ x1 x2 0 (by decide) (Nat.lt_succ_self _)

noncomputable def xX5_goesTo (M : St) (p1 : Int32) : St := nm (sa M 0 (up (M 0) 24 p1)) fun M1 => nm (sa M1 0 (up (M1 0) 25 (-1))) fun M2 => nm (if p1 = 1 then (88) else (0) : Int32) fun v4 => nm (sa M2 0 (up (M2 0) 26 v4)) fun M5 => M5
set_option maxHeartbeats 4000000 in
set_option maxRecDepth 100000 in
theorem kX5_goesTo (l : Launch) (D : va_G) (cA : ClassId) (T : Nat × Nat × Nat) (h : Nat → Nat) (M : St) (p1 : Int32) (hz : (Zarr1 M)) : ∀ sz : Nat, Met l yX5_goesTo wsX5_goesTo { frames := 0, cells := 0, slots := 0, locals := 0 } (va_Pc [.ref (h 0), .int p1] (PreW D cA T (arr1W cA h M) sz)) (va_Qv (fun u => u = (xX5_goesTo M p1) ∧ (Zarr1) u) (fun u => PostW D cA (va_A (arr1W cA h M) sz) (arr1W cA h u)) (va_A (arr1W cA h M) sz)) 0 0 (va_A (arr1W cA h M) sz) := by
  refine m_ev (Wf := arr1W cA h) (inv := (Zarr1)) (cc := cX5_goesTo) (maxL := 2) (own := RX5) (by decide) rfl rfl (Nat.le_of_ble_eq_true rfl) (fun {p e s m args below meth c} A C X => ?_)
  show G p l e { frames := 0, cells := 0, slots := 0, locals := 0 } s m args below meth c 0 0 D A (Qev below D cA A args s 0 0 (arr1W cA h) (Zarr1) X) 2 X (xX5_goesTo M p1) (arr1W cA h M) 0 [(0, .ref (h 0)), (1, .int p1)] []
  unfold xX5_goesTo
  refine g_aload_n C (pc := 0) dX5_goesTo_0 0 rfl ?_
  refine g_bipush C (pc := 1) dX5_goesTo_1 cB_24 ?_
  refine g_iload_n C (pc := 3) dX5_goesTo_3 1 rfl ?_
  refine g_iast C (pc := 4) dX5_goesTo_4 0 rfl inb_24_151 (24) tn_24 (arr1W cA h) (sa M 0 (up (M 0) 24 p1)) rfl (fun M1 eM1 => ?_)
  have hz1 : (Zarr1 M1) := by rw [eM1]; exact hz
  refine g_aload_n C (pc := 5) dX5_goesTo_5 0 rfl ?_
  refine g_bipush C (pc := 6) dX5_goesTo_6 cB_25 ?_
  refine g_iconst C (pc := 8) dX5_goesTo_8 cI_m1 ?_
  refine g_iast C (pc := 9) dX5_goesTo_9 0 rfl inb_25_151 (25) tn_25 (arr1W cA h) (sa M1 0 (up (M1 0) 25 (-1))) rfl (fun M2 eM2 => ?_)
  have hz2 : (Zarr1 M2) := by rw [eM2]; exact hz1
  refine g_aload_n C (pc := 10) dX5_goesTo_10 0 rfl ?_
  refine g_bipush C (pc := 11) dX5_goesTo_11 cB_26 ?_
  refine g_iload_n C (pc := 13) dX5_goesTo_13 1 rfl ?_
  refine g_iconst C (pc := 14) dX5_goesTo_14 cI_1 ?_
  refine g_join (α := Int32) (fun v4 => []) (fun v4 => [.int v4, .int 26, .ref (h 0)]) 24 (fun v4 ev4 => ?_) (fun Jv4 => ?_)
  · refine g_iast C (pc := 24) dX5_goesTo_24 0 rfl inb_26_151 (26) tn_26 (arr1W cA h) (sa M2 0 (up (M2 0) 26 v4)) rfl (fun M5 eM5 => ?_)
    have hz5 : (Zarr1 M5) := by rw [eM5]; exact hz2
    exact r_ev C rfl dX5_goesTo_25 hz5
  · refine g_icmp_ne0 C (pc := 15) 23 dX5_goesTo_15 (by decide) (fun c3 => ?_) (fun c3 => ?_)
    · refine g_iconst C (pc := 23) dX5_goesTo_23 cI_0 ?_
      refine g_sub [] rfl ?_
      exact g_lf (if_neg c3) (Jv4 _ (Eq.symm (if_neg c3)))
    · refine g_bipush C (pc := 18) dX5_goesTo_18 cB_88 ?_
      refine g_goto C (pc := 20) 24 dX5_goesTo_20 (by decide) ?_
      refine g_sub [] rfl ?_
      exact g_lf (if_pos c3) (Jv4 _ (Eq.symm (if_pos c3)))

noncomputable def xX5_rises (M : St) : St := nm (((M 0 19) + ((M 0 28) / 2)) : Int32) fun x1 => nm ((100 * (M 0 2)) : Int32) fun x2 => nm (if 0 ≤ x1 then (if x1 ≤ x2 then (x1) else (x2)) else (0) : Int32) fun v5 => nm (sa M 0 (up (M 0) 19 v5)) fun M6 => nm (if 0 < (M6 0 28) then (0) else (((M6 0 27) + 1)) : Int32) fun v8 => nm (sa M6 0 (up (M6 0) 27 v8)) fun M9 => if (M9 0 19) < (xX5_fullOf M9) then (if (M9 0 24) = 0 then (if (M9 0 19) = x2 then (nm (xX5_goesTo M9 4) fun M26 => M26) else (if (M9 0 27) < 50 then (M9) else (nm (if (M9 0 18) = 0 then (if (M9 0 14) ≤ (M9 0 15) then (5) else (6)) else (5) : Int32) fun v24 => nm (xX5_goesTo M9 v24) fun M25 => M25))) else (if (M9 0 24) = 1 then (if ((M9 0 25) - (M9 0 25) / 3 * 3) = 2 then (nm (sa M9 0 (up (M9 0) 26 (((M9 0 26) / 8) * 7))) fun M17 => if 10 ≤ (M17 0 26) then (M17) else (nm (xX5_goesTo M17 0) fun M19 => M19)) else (M9)) else (if (M9 0 28) ≤ 0 then (M9) else (if x2 ≤ (M9 0 19) then (M9) else (nm (xX5_goesTo M9 0) fun M15 => M15))))) else (nm (xX5_goesTo M9 2) fun M27 => M27)
set_option maxHeartbeats 4000000 in
set_option maxRecDepth 100000 in
theorem kX5_rises (l : Launch) (D : va_G) (cA : ClassId) (T : Nat × Nat × Nat) (h : Nat → Nat) (M : St) (hz : (Zarr1 M)) : ∀ sz : Nat, Met l yX5_rises wsX5_rises { frames := 1, cells := 0, slots := 0, locals := 21 } (va_Pc [.ref (h 0)] (PreW D cA T (arr1W cA h M) sz)) (va_Qv (fun u => u = (xX5_rises M) ∧ (Zarr1) u) (fun u => PostW D cA (va_A (arr1W cA h M) sz) (arr1W cA h u)) (va_A (arr1W cA h M) sz)) 0 0 (va_A (arr1W cA h M) sz) := by
  refine m_ev (Wf := arr1W cA h) (inv := (Zarr1)) (cc := cX5_rises) (maxL := 3) (own := RX5) (by decide) rfl rfl (Nat.le_of_ble_eq_true rfl) (fun {p e s m args below meth c} A C X => ?_)
  show G p l e { frames := 1, cells := 0, slots := 0, locals := 21 } s m args below meth c 0 0 D A (Qev below D cA A args s 0 0 (arr1W cA h) (Zarr1) X) 3 X (xX5_rises M) (arr1W cA h M) 0 [(0, .ref (h 0))] []
  unfold xX5_rises
  refine g_aload_n C (pc := 0) dX5_rises_0 0 rfl ?_
  refine g_bipush C (pc := 1) dX5_rises_1 cB_19 ?_
  refine g_iald C (pc := 3) dX5_rises_3 0 rfl inb_19_151 (M 0 19) (congrArg (M 0) tn_19) ?_
  refine g_aload_n C (pc := 4) dX5_rises_4 0 rfl ?_
  refine g_bipush C (pc := 5) dX5_rises_5 cB_28 ?_
  refine g_iald C (pc := 7) dX5_rises_7 0 rfl inb_28_151 (M 0 28) (congrArg (M 0) tn_28) ?_
  refine g_iconst C (pc := 8) dX5_rises_8 cI_2 ?_
  refine g_idiv C (pc := 9) dX5_rises_9 nz_2 ?_
  refine g_iadd C (pc := 10) dX5_rises_10 ?_
  refine g_nmi (fun x1 ex1 => ?_)
  refine g_istore_n C (pc := 11) [(1, .int x1), (0, .ref (h 0))] dX5_rises_11 (by decide) rfl ?_
  refine g_bipush C (pc := 12) dX5_rises_12 cB_100 ?_
  refine g_aload_n C (pc := 14) dX5_rises_14 1 rfl ?_
  refine g_iconst C (pc := 15) dX5_rises_15 cI_2 ?_
  refine g_iald C (pc := 16) dX5_rises_16 0 rfl inb_2_151 (M 0 2) (congrArg (M 0) tn_2) ?_
  refine g_imul C (pc := 17) dX5_rises_17 ?_
  refine g_nmi (fun x2 ex2 => ?_)
  refine g_istore_n C (pc := 18) [(2, .int x2), (1, .int x1), (0, .ref (h 0))] dX5_rises_18 (by decide) rfl ?_
  refine g_aload_n C (pc := 19) dX5_rises_19 2 rfl ?_
  refine g_bipush C (pc := 20) dX5_rises_20 cB_19 ?_
  refine g_iload_n C (pc := 22) dX5_rises_22 1 rfl ?_
  refine g_join (α := Int32) (fun v5 => [(0, .ref (h 0)), (2, .int x2)]) (fun v5 => [.int v5, .int 19, .ref (h 0)]) 40 (fun v5 ev5 => ?_) (fun Jv5 => ?_)
  · refine g_iast C (pc := 40) dX5_rises_40 0 rfl inb_19_151 (19) tn_19 (arr1W cA h) (sa M 0 (up (M 0) 19 v5)) rfl (fun M6 eM6 => ?_)
    have hz6 : (Zarr1 M6) := by rw [eM6]; exact hz
    refine g_aload_n C (pc := 41) dX5_rises_41 0 rfl ?_
    refine g_bipush C (pc := 42) dX5_rises_42 cB_27 ?_
    refine g_aload_n C (pc := 44) dX5_rises_44 0 rfl ?_
    refine g_bipush C (pc := 45) dX5_rises_45 cB_28 ?_
    refine g_iald C (pc := 47) dX5_rises_47 0 rfl inb_28_151 (M6 0 28) (congrArg (M6 0) tn_28) ?_
    refine g_join (α := Int32) (fun v8 => [(0, .ref (h 0)), (2, .int x2)]) (fun v8 => [.int v8, .int 27, .ref (h 0)]) 61 (fun v8 ev8 => ?_) (fun Jv8 => ?_)
    · refine g_iast C (pc := 61) dX5_rises_61 0 rfl inb_27_151 (27) tn_27 (arr1W cA h) (sa M6 0 (up (M6 0) 27 v8)) rfl (fun M9 eM9 => ?_)
      have hz9 : (Zarr1 M9) := by rw [eM9]; exact hz6
      refine g_aload_n C (pc := 62) dX5_rises_62 0 rfl ?_
      refine g_bipush C (pc := 63) dX5_rises_63 cB_19 ?_
      refine g_iald C (pc := 65) dX5_rises_65 0 rfl inb_19_151 (M9 0 19) (congrArg (M9 0) tn_19) ?_
      refine g_aload_n C (pc := 66) dX5_rises_66 0 rfl ?_
      refine g_Spi C (pc := 67) (As := [.ref (h 0)]) (kX5_fullOf l D cA T h M9 hz9) (v_id (arr1W cA h) M9 1 (fun _ => rfl) rfl) gX5_rises_X5_fullOf rfl ⟨rfl, rfl⟩ ⟨Nat.le_of_ble_eq_true rfl, Nat.le_of_ble_eq_true rfl⟩ ⟨Nat.zero_le _, Nat.zero_le _⟩ rfl (Nat.le_of_ble_eq_true rfl) hdS_X5_fullOf rfl dX5_rises_67 ?_
      refine g_icmp_lt C (pc := 70) 81 dX5_rises_70 (by decide) (fun c10 => ?_) (fun c10 => ?_)
      · refine g_aload_n C (pc := 81) dX5_rises_81 0 rfl ?_
        refine g_bipush C (pc := 82) dX5_rises_82 cB_24 ?_
        refine g_iald C (pc := 84) dX5_rises_84 0 rfl inb_24_151 (M9 0 24) (congrArg (M9 0) tn_24) ?_
        refine g_if_ne C (pc := 85) 144 dX5_rises_85 (by decide) (fun c11 => ?_) (fun c11 => ?_)
        · refine g_aload_n C (pc := 144) dX5_rises_144 0 rfl ?_
          refine g_bipush C (pc := 145) dX5_rises_145 cB_24 ?_
          refine g_iald C (pc := 147) dX5_rises_147 0 rfl inb_24_151 (M9 0 24) (congrArg (M9 0) tn_24) ?_
          refine g_iconst C (pc := 148) dX5_rises_148 cI_1 ?_
          refine g_icmp_ne C (pc := 149) 194 dX5_rises_149 (by decide) (fun c12 => ?_) (fun c12 => ?_)
          · refine g_aload_n C (pc := 194) dX5_rises_194 0 rfl ?_
            refine g_bipush C (pc := 195) dX5_rises_195 cB_28 ?_
            refine g_iald C (pc := 197) dX5_rises_197 0 rfl inb_28_151 (M9 0 28) (congrArg (M9 0) tn_28) ?_
            refine g_if_le C (pc := 198) 214 dX5_rises_198 (by decide) (fun c13 => ?_) (fun c13 => ?_)
            · exact r_ev C rfl dX5_rises_214 hz9
            · refine g_aload_n C (pc := 201) dX5_rises_201 0 rfl ?_
              refine g_bipush C (pc := 202) dX5_rises_202 cB_19 ?_
              refine g_iald C (pc := 204) dX5_rises_204 0 rfl inb_19_151 (M9 0 19) (congrArg (M9 0) tn_19) ?_
              refine g_iload_n C (pc := 205) dX5_rises_205 1 rfl ?_
              refine g_icmp_ge C (pc := 206) 214 dX5_rises_206 (by decide) (fun c14 => ?_) (fun c14 => ?_)
              · exact r_ev C rfl dX5_rises_214 hz9
              · refine g_aload_n C (pc := 209) dX5_rises_209 0 rfl ?_
                refine g_iconst C (pc := 210) dX5_rises_210 cI_0 ?_
                refine g_Sev C (pc := 211) (As := [.ref (h 0), .int 0]) (kX5_goesTo l D cA T h M9 0 hz9) (v_id (arr1W cA h) M9 1 (fun _ => rfl) rfl) gX5_rises_X5_goesTo rfl ⟨rfl, rfl⟩ ⟨Nat.le_of_ble_eq_true rfl, Nat.le_of_ble_eq_true rfl⟩ ⟨Nat.zero_le _, Nat.zero_le _⟩ rfl (Nat.le_of_ble_eq_true rfl) hdS_X5_goesTo rfl dX5_rises_211 (fun M15 eM15 hz_M15 => ?_)
                have hz15 := hz_M15
                exact r_ev C rfl dX5_rises_214 hz15
          · refine g_aload_n C (pc := 152) dX5_rises_152 0 rfl ?_
            refine g_bipush C (pc := 153) dX5_rises_153 cB_25 ?_
            refine g_iald C (pc := 155) dX5_rises_155 0 rfl inb_25_151 (M9 0 25) (congrArg (M9 0) tn_25) ?_
            refine g_iconst C (pc := 156) dX5_rises_156 cI_3 ?_
            refine g_irem C (pc := 157) dX5_rises_157 nz_3 ?_
            refine g_iconst C (pc := 158) dX5_rises_158 cI_2 ?_
            refine g_icmp_eq C (pc := 159) 163 dX5_rises_159 (by decide) (fun c16 => ?_) (fun c16 => ?_)
            · refine g_aload_n C (pc := 163) dX5_rises_163 0 rfl ?_
              refine g_bipush C (pc := 164) dX5_rises_164 cB_26 ?_
              refine g_aload_n C (pc := 166) dX5_rises_166 0 rfl ?_
              refine g_bipush C (pc := 167) dX5_rises_167 cB_26 ?_
              refine g_iald C (pc := 169) dX5_rises_169 0 rfl inb_26_151 (M9 0 26) (congrArg (M9 0) tn_26) ?_
              refine g_bipush C (pc := 170) dX5_rises_170 cB_8 ?_
              refine g_idiv C (pc := 172) dX5_rises_172 nz_8 ?_
              refine g_bipush C (pc := 173) dX5_rises_173 cB_7 ?_
              refine g_imul C (pc := 175) dX5_rises_175 ?_
              refine g_iast C (pc := 176) dX5_rises_176 0 rfl inb_26_151 (26) tn_26 (arr1W cA h) (sa M9 0 (up (M9 0) 26 (((M9 0 26) / 8) * 7))) rfl (fun M17 eM17 => ?_)
              have hz17 : (Zarr1 M17) := by rw [eM17]; exact hz9
              refine g_aload_n C (pc := 177) dX5_rises_177 0 rfl ?_
              refine g_bipush C (pc := 178) dX5_rises_178 cB_26 ?_
              refine g_iald C (pc := 180) dX5_rises_180 0 rfl inb_26_151 (M17 0 26) (congrArg (M17 0) tn_26) ?_
              refine g_bipush C (pc := 181) dX5_rises_181 cB_10 ?_
              refine g_icmp_ge C (pc := 183) 214 dX5_rises_183 (by decide) (fun c18 => ?_) (fun c18 => ?_)
              · exact r_ev C rfl dX5_rises_214 hz17
              · refine g_aload_n C (pc := 186) dX5_rises_186 0 rfl ?_
                refine g_iconst C (pc := 187) dX5_rises_187 cI_0 ?_
                refine g_Sev C (pc := 188) (As := [.ref (h 0), .int 0]) (kX5_goesTo l D cA T h M17 0 hz17) (v_id (arr1W cA h) M17 1 (fun _ => rfl) rfl) gX5_rises_X5_goesTo rfl ⟨rfl, rfl⟩ ⟨Nat.le_of_ble_eq_true rfl, Nat.le_of_ble_eq_true rfl⟩ ⟨Nat.zero_le _, Nat.zero_le _⟩ rfl (Nat.le_of_ble_eq_true rfl) hdS_X5_goesTo rfl dX5_rises_188 (fun M19 eM19 hz_M19 => ?_)
                have hz19 := hz_M19
                refine g_goto C (pc := 191) 214 dX5_rises_191 (by decide) ?_
                exact r_ev C rfl dX5_rises_214 hz19
            · exact r_ev C rfl dX5_rises_162 hz9
        · refine g_aload_n C (pc := 88) dX5_rises_88 0 rfl ?_
          refine g_bipush C (pc := 89) dX5_rises_89 cB_19 ?_
          refine g_iald C (pc := 91) dX5_rises_91 0 rfl inb_19_151 (M9 0 19) (congrArg (M9 0) tn_19) ?_
          refine g_iload_n C (pc := 92) dX5_rises_92 1 rfl ?_
          refine g_icmp_ne C (pc := 93) 104 dX5_rises_93 (by decide) (fun c20 => ?_) (fun c20 => ?_)
          · refine g_aload_n C (pc := 104) dX5_rises_104 0 rfl ?_
            refine g_bipush C (pc := 105) dX5_rises_105 cB_27 ?_
            refine g_iald C (pc := 107) dX5_rises_107 0 rfl inb_27_151 (M9 0 27) (congrArg (M9 0) tn_27) ?_
            refine g_bipush C (pc := 108) dX5_rises_108 cB_50 ?_
            refine g_icmp_lt C (pc := 110) 214 dX5_rises_110 (by decide) (fun c21 => ?_) (fun c21 => ?_)
            · exact r_ev C rfl dX5_rises_214 hz9
            · refine g_aload_n C (pc := 113) dX5_rises_113 0 rfl ?_
              refine g_aload_n C (pc := 114) dX5_rises_114 0 rfl ?_
              refine g_bipush C (pc := 115) dX5_rises_115 cB_18 ?_
              refine g_iald C (pc := 117) dX5_rises_117 0 rfl inb_18_151 (M9 0 18) (congrArg (M9 0) tn_18) ?_
              refine g_join (α := Int32) (fun v24 => []) (fun v24 => [.int v24, .ref (h 0)]) 138 (fun v24 ev24 => ?_) (fun Jv24 => ?_)
              · refine g_Sev C (pc := 138) (As := [.ref (h 0), .int v24]) (kX5_goesTo l D cA T h M9 v24 hz9) (v_id (arr1W cA h) M9 1 (fun _ => rfl) rfl) gX5_rises_X5_goesTo rfl ⟨rfl, rfl⟩ ⟨Nat.le_of_ble_eq_true rfl, Nat.le_of_ble_eq_true rfl⟩ ⟨Nat.zero_le _, Nat.zero_le _⟩ rfl (Nat.le_of_ble_eq_true rfl) hdS_X5_goesTo rfl dX5_rises_138 (fun M25 eM25 hz_M25 => ?_)
                have hz25 := hz_M25
                refine g_goto C (pc := 141) 214 dX5_rises_141 (by decide) ?_
                exact r_ev C rfl dX5_rises_214 hz25
              · refine g_if_ne0 C (pc := 118) 137 dX5_rises_118 (by decide) (fun c22 => ?_) (fun c22 => ?_)
                · refine g_iconst C (pc := 137) dX5_rises_137 cI_5 ?_
                  refine g_sub [] rfl ?_
                  exact g_lf (if_neg c22) (Jv24 _ (Eq.symm (if_neg c22)))
                · refine g_aload_n C (pc := 121) dX5_rises_121 0 rfl ?_
                  refine g_bipush C (pc := 122) dX5_rises_122 cB_15 ?_
                  refine g_iald C (pc := 124) dX5_rises_124 0 rfl inb_15_151 (M9 0 15) (congrArg (M9 0) tn_15) ?_
                  refine g_aload_n C (pc := 125) dX5_rises_125 0 rfl ?_
                  refine g_bipush C (pc := 126) dX5_rises_126 cB_14 ?_
                  refine g_iald C (pc := 128) dX5_rises_128 0 rfl inb_14_151 (M9 0 14) (congrArg (M9 0) tn_14) ?_
                  refine g_icmp_ge0 C (pc := 129) 137 dX5_rises_129 (by decide) (fun c23 => ?_) (fun c23 => ?_)
                  · refine g_iconst C (pc := 137) dX5_rises_137 cI_5 ?_
                    refine g_sub [] rfl ?_
                    exact g_lf ((if_pos c22).trans (if_pos c23)) (Jv24 _ (Eq.symm ((if_pos c22).trans (if_pos c23))))
                  · refine g_bipush C (pc := 132) dX5_rises_132 cB_6 ?_
                    refine g_goto C (pc := 134) 138 dX5_rises_134 (by decide) ?_
                    refine g_sub [] rfl ?_
                    exact g_lf ((if_pos c22).trans (if_neg c23)) (Jv24 _ (Eq.symm ((if_pos c22).trans (if_neg c23))))
          · refine g_aload_n C (pc := 96) dX5_rises_96 0 rfl ?_
            refine g_iconst C (pc := 97) dX5_rises_97 cI_4 ?_
            refine g_Sev C (pc := 98) (As := [.ref (h 0), .int 4]) (kX5_goesTo l D cA T h M9 4 hz9) (v_id (arr1W cA h) M9 1 (fun _ => rfl) rfl) gX5_rises_X5_goesTo rfl ⟨rfl, rfl⟩ ⟨Nat.le_of_ble_eq_true rfl, Nat.le_of_ble_eq_true rfl⟩ ⟨Nat.zero_le _, Nat.zero_le _⟩ rfl (Nat.le_of_ble_eq_true rfl) hdS_X5_goesTo rfl dX5_rises_98 (fun M26 eM26 hz_M26 => ?_)
            have hz26 := hz_M26
            refine g_goto C (pc := 101) 214 dX5_rises_101 (by decide) ?_
            exact r_ev C rfl dX5_rises_214 hz26
      · refine g_aload_n C (pc := 73) dX5_rises_73 0 rfl ?_
        refine g_iconst C (pc := 74) dX5_rises_74 cI_2 ?_
        refine g_Sev C (pc := 75) (As := [.ref (h 0), .int 2]) (kX5_goesTo l D cA T h M9 2 hz9) (v_id (arr1W cA h) M9 1 (fun _ => rfl) rfl) gX5_rises_X5_goesTo rfl ⟨rfl, rfl⟩ ⟨Nat.le_of_ble_eq_true rfl, Nat.le_of_ble_eq_true rfl⟩ ⟨Nat.zero_le _, Nat.zero_le _⟩ rfl (Nat.le_of_ble_eq_true rfl) hdS_X5_goesTo rfl dX5_rises_75 (fun M27 eM27 hz_M27 => ?_)
        have hz27 := hz_M27
        refine g_goto C (pc := 78) 214 dX5_rises_78 (by decide) ?_
        exact r_ev C rfl dX5_rises_214 hz27
    · refine g_if_gt0 C (pc := 48) 60 dX5_rises_48 (by decide) (fun c7 => ?_) (fun c7 => ?_)
      · refine g_iconst C (pc := 60) dX5_rises_60 cI_0 ?_
        refine g_sub [0, 1] rfl ?_
        exact g_lf (if_pos c7) (Jv8 _ (Eq.symm (if_pos c7)))
      · refine g_aload_n C (pc := 51) dX5_rises_51 0 rfl ?_
        refine g_bipush C (pc := 52) dX5_rises_52 cB_27 ?_
        refine g_iald C (pc := 54) dX5_rises_54 0 rfl inb_27_151 (M6 0 27) (congrArg (M6 0) tn_27) ?_
        refine g_iconst C (pc := 55) dX5_rises_55 cI_1 ?_
        refine g_iadd C (pc := 56) dX5_rises_56 ?_
        refine g_goto C (pc := 57) 61 dX5_rises_57 (by decide) ?_
        refine g_sub [0, 1] rfl ?_
        exact g_lf (if_neg c7) (Jv8 _ (Eq.symm (if_neg c7)))
  · refine g_if_ge0 C (pc := 23) 30 dX5_rises_23 (by decide) (fun c3 => ?_) (fun c3 => ?_)
    · refine g_iload_n C (pc := 30) dX5_rises_30 1 rfl ?_
      refine g_iload_n C (pc := 31) dX5_rises_31 0 rfl ?_
      refine g_icmp_le0 C (pc := 32) 39 dX5_rises_32 (by decide) (fun c4 => ?_) (fun c4 => ?_)
      · refine g_iload_n C (pc := 39) dX5_rises_39 1 rfl ?_
        refine g_sub [2, 0] rfl ?_
        exact g_lf ((if_pos c3).trans (if_pos c4)) (Jv5 _ (Eq.symm ((if_pos c3).trans (if_pos c4))))
      · refine g_iload_n C (pc := 35) dX5_rises_35 0 rfl ?_
        refine g_goto C (pc := 36) 40 dX5_rises_36 (by decide) ?_
        refine g_sub [2, 0] rfl ?_
        exact g_lf ((if_pos c3).trans (if_neg c4)) (Jv5 _ (Eq.symm ((if_pos c3).trans (if_neg c4))))
    · refine g_iconst C (pc := 26) dX5_rises_26 cI_0 ?_
      refine g_goto C (pc := 27) 40 dX5_rises_27 (by decide) ?_
      refine g_sub [2, 0] rfl ?_
      exact g_lf (if_neg c3) (Jv5 _ (Eq.symm (if_neg c3)))

noncomputable def xX5_nods (M : St) : St := nm (sa M 0 (up (M 0) 23 ((M 0 23) + 1))) fun M1 => nm (if 60 ≤ (M1 0 89) then (M1) else (nm (sa M1 0 (up (M1 0) (((29 + (M1 0 89)) : Int32).toNatClampNeg) (M1 0 22))) fun M12 => nm (sa M12 0 (up (M12 0) 89 ((M12 0 89) + 1))) fun M13 => M13) : St) fun w2 => nm (w2) fun M3 => nm (if (M3 0 15) < (M3 0 14) then (M3) else (if (M3 0 15) < 5 then (M3) else (nm (sa M3 0 (up (M3 0) 15 ((M3 0 15) - 5))) fun M9 => nm (sa M9 0 (up (M9 0) 18 (xX5_lesser ((M9 0 18) + 500) (100 * (M9 0 0))))) fun M10 => M10)) : St) fun w4 => nm (w4) fun M5 => nm (xX5_goesTo M5 3) fun M6 => M6
set_option maxHeartbeats 4000000 in
set_option maxRecDepth 100000 in
theorem kX5_nods (l : Launch) (D : va_G) (cA : ClassId) (T : Nat × Nat × Nat) (h : Nat → Nat) (M : St) (hz : (Zarr1 M)) : ∀ sz : Nat, Met l yX5_nods wsX5_nods { frames := 1, cells := 0, slots := 0, locals := 21 } (va_Pc [.ref (h 0)] (PreW D cA T (arr1W cA h M) sz)) (va_Qv (fun u => u = (xX5_nods M) ∧ (Zarr1) u) (fun u => PostW D cA (va_A (arr1W cA h M) sz) (arr1W cA h u)) (va_A (arr1W cA h M) sz)) 0 0 (va_A (arr1W cA h M) sz) := by
  refine m_ev (Wf := arr1W cA h) (inv := (Zarr1)) (cc := cX5_nods) (maxL := 1) (own := RX5) (by decide) rfl rfl (Nat.le_of_ble_eq_true rfl) (fun {p e s m args below meth c} A C X => ?_)
  show G p l e { frames := 1, cells := 0, slots := 0, locals := 21 } s m args below meth c 0 0 D A (Qev below D cA A args s 0 0 (arr1W cA h) (Zarr1) X) 1 X (xX5_nods M) (arr1W cA h M) 0 [(0, .ref (h 0))] []
  unfold xX5_nods
  refine g_aload_n C (pc := 0) dX5_nods_0 0 rfl ?_
  refine g_bipush C (pc := 1) dX5_nods_1 cB_23 ?_
  refine g_dup2 C (pc := 3) dX5_nods_3 rfl rfl ?_
  refine g_iald C (pc := 4) dX5_nods_4 0 rfl inb_23_151 (M 0 23) (congrArg (M 0) tn_23) ?_
  refine g_iconst C (pc := 5) dX5_nods_5 cI_1 ?_
  refine g_iadd C (pc := 6) dX5_nods_6 ?_
  refine g_iast C (pc := 7) dX5_nods_7 0 rfl inb_23_151 (23) tn_23 (arr1W cA h) (sa M 0 (up (M 0) 23 ((M 0 23) + 1))) rfl (fun M1 eM1 => ?_)
  have hz1 : (Zarr1 M1) := by rw [eM1]; exact hz
  refine g_aload_n C (pc := 8) dX5_nods_8 0 rfl ?_
  refine g_bipush C (pc := 9) dX5_nods_9 cB_89 ?_
  refine g_iald C (pc := 11) dX5_nods_11 0 rfl inb_89_151 (M1 0 89) (congrArg (M1 0) tn_89) ?_
  refine g_bipush C (pc := 12) dX5_nods_12 cB_60 ?_
  refine g_inner (σ := St) (fun w2 : St => (arr1W cA h w2)) (fun w2 => [(0, .ref (h 0))]) 38 (fun w2 : St => (Zarr1 w2)) (fun w2 ew2 hw2 => ?_) (fun X2 Jw2 => ?_)
  · refine g_nmW (arr1W cA h) (fun M3 eM3 => ?_)
    have hz3 : (Zarr1 M3) := by rw [eM3]; exact hw2
    refine g_aload_n C (pc := 38) dX5_nods_38 0 rfl ?_
    refine g_bipush C (pc := 39) dX5_nods_39 cB_15 ?_
    refine g_iald C (pc := 41) dX5_nods_41 0 rfl inb_15_151 (M3 0 15) (congrArg (M3 0) tn_15) ?_
    refine g_aload_n C (pc := 42) dX5_nods_42 0 rfl ?_
    refine g_bipush C (pc := 43) dX5_nods_43 cB_14 ?_
    refine g_iald C (pc := 45) dX5_nods_45 0 rfl inb_14_151 (M3 0 14) (congrArg (M3 0) tn_14) ?_
    refine g_inner (σ := St) (fun w4 : St => (arr1W cA h w4)) (fun w4 => [(0, .ref (h 0))]) 86 (fun w4 : St => (Zarr1 w4)) (fun w4 ew4 hw4 => ?_) (fun X4 Jw4 => ?_)
    · refine g_nmW (arr1W cA h) (fun M5 eM5 => ?_)
      have hz5 : (Zarr1 M5) := by rw [eM5]; exact hw4
      refine g_aload_n C (pc := 86) dX5_nods_86 0 rfl ?_
      refine g_iconst C (pc := 87) dX5_nods_87 cI_3 ?_
      refine g_Sev C (pc := 88) (As := [.ref (h 0), .int 3]) (kX5_goesTo l D cA T h M5 3 hz5) (v_id (arr1W cA h) M5 1 (fun _ => rfl) rfl) gX5_nods_X5_goesTo rfl ⟨rfl, rfl⟩ ⟨Nat.le_of_ble_eq_true rfl, Nat.le_of_ble_eq_true rfl⟩ ⟨Nat.zero_le _, Nat.zero_le _⟩ rfl (Nat.le_of_ble_eq_true rfl) hdS_X5_goesTo rfl dX5_nods_88 (fun M6 eM6 hz_M6 => ?_)
      have hz6 := hz_M6
      exact r_ev C rfl dX5_nods_91 hz6
    · refine g_icmp_lt C (pc := 46) 86 dX5_nods_46 (by decide) (fun c7 => ?_) (fun c7 => ?_)
      · refine g_sub [0] rfl ?_
        exact Jw4 M3 hz3
      · refine g_aload_n C (pc := 49) dX5_nods_49 0 rfl ?_
        refine g_bipush C (pc := 50) dX5_nods_50 cB_15 ?_
        refine g_iald C (pc := 52) dX5_nods_52 0 rfl inb_15_151 (M3 0 15) (congrArg (M3 0) tn_15) ?_
        refine g_iconst C (pc := 53) dX5_nods_53 cI_5 ?_
        refine g_icmp_lt C (pc := 54) 86 dX5_nods_54 (by decide) (fun c8 => ?_) (fun c8 => ?_)
        · refine g_sub [0] rfl ?_
          exact Jw4 M3 hz3
        · refine g_aload_n C (pc := 57) dX5_nods_57 0 rfl ?_
          refine g_bipush C (pc := 58) dX5_nods_58 cB_15 ?_
          refine g_dup2 C (pc := 60) dX5_nods_60 rfl rfl ?_
          refine g_iald C (pc := 61) dX5_nods_61 0 rfl inb_15_151 (M3 0 15) (congrArg (M3 0) tn_15) ?_
          refine g_iconst C (pc := 62) dX5_nods_62 cI_5 ?_
          refine g_isub C (pc := 63) dX5_nods_63 ?_
          refine g_iast C (pc := 64) dX5_nods_64 0 rfl inb_15_151 (15) tn_15 (arr1W cA h) (sa M3 0 (up (M3 0) 15 ((M3 0 15) - 5))) rfl (fun M9 eM9 => ?_)
          have hz9 : (Zarr1 M9) := by rw [eM9]; exact hz3
          refine g_aload_n C (pc := 65) dX5_nods_65 0 rfl ?_
          refine g_bipush C (pc := 66) dX5_nods_66 cB_18 ?_
          refine g_aload_n C (pc := 68) dX5_nods_68 0 rfl ?_
          refine g_bipush C (pc := 69) dX5_nods_69 cB_18 ?_
          refine g_iald C (pc := 71) dX5_nods_71 0 rfl inb_18_151 (M9 0 18) (congrArg (M9 0) tn_18) ?_
          refine g_sipush C (pc := 72) dX5_nods_72 cS_500 ?_
          refine g_iadd C (pc := 75) dX5_nods_75 ?_
          refine g_bipush C (pc := 76) dX5_nods_76 cB_100 ?_
          refine g_aload_n C (pc := 78) dX5_nods_78 0 rfl ?_
          refine g_iconst C (pc := 79) dX5_nods_79 cI_0 ?_
          refine g_iald C (pc := 80) dX5_nods_80 0 rfl inb_0_151 (M9 0 0) (congrArg (M9 0) tn_0) ?_
          refine g_imul C (pc := 81) dX5_nods_81 ?_
          refine g_Spi C (pc := 82) (As := [.int ((M9 0 18) + 500), .int (100 * (M9 0 0))]) (kX5_lesser l D cA T ((M9 0 18) + 500) (100 * (M9 0 0))) (v_none (arr1W cA h M9) 1 rfl rfl) gX5_nods_X5_lesser rfl ⟨rfl, rfl⟩ ⟨Nat.le_of_ble_eq_true rfl, Nat.le_of_ble_eq_true rfl⟩ ⟨Nat.zero_le _, Nat.zero_le _⟩ rfl (Nat.le_of_ble_eq_true rfl) hdS_X5_lesser rfl dX5_nods_82 ?_
          refine g_iast C (pc := 85) dX5_nods_85 0 rfl inb_18_151 (18) tn_18 (arr1W cA h) (sa M9 0 (up (M9 0) 18 (xX5_lesser ((M9 0 18) + 500) (100 * (M9 0 0))))) rfl (fun M10 eM10 => ?_)
          have hz10 : (Zarr1 M10) := by rw [eM10]; exact hz9
          refine g_sub [0] rfl ?_
          exact Jw4 M10 hz10
  · refine g_icmp_ge C (pc := 14) 38 dX5_nods_14 (by decide) (fun c11 => ?_) (fun c11 => ?_)
    · refine g_sub [0] rfl ?_
      exact Jw2 M1 hz1
    · refine g_aload_n C (pc := 17) dX5_nods_17 0 rfl ?_
      refine g_bipush C (pc := 18) dX5_nods_18 cB_29 ?_
      refine g_aload_n C (pc := 20) dX5_nods_20 0 rfl ?_
      refine g_bipush C (pc := 21) dX5_nods_21 cB_89 ?_
      refine g_iald C (pc := 23) dX5_nods_23 0 rfl inb_89_151 (M1 0 89) (congrArg (M1 0) tn_89) ?_
      refine g_iadd C (pc := 24) dX5_nods_24 ?_
      refine g_aload_n C (pc := 25) dX5_nods_25 0 rfl ?_
      refine g_bipush C (pc := 26) dX5_nods_26 cB_22 ?_
      refine g_iald C (pc := 28) dX5_nods_28 0 rfl inb_22_151 (M1 0 22) (congrArg (M1 0) tn_22) ?_
      refine g_iast C (pc := 29) dX5_nods_29 0 rfl (nd_in hz1 c11) (((29 + (M1 0 89)) : Int32).toNatClampNeg) rfl (arr1W cA h) (sa M1 0 (up (M1 0) (((29 + (M1 0 89)) : Int32).toNatClampNeg) (M1 0 22))) rfl (fun M12 eM12 => ?_)
      have hz12 : (Zarr1 M12) := (nd1 hz1 c11 eM12).1
      have hd := (nd1 hz1 c11 eM12).2
      refine g_aload_n C (pc := 30) dX5_nods_30 0 rfl ?_
      refine g_bipush C (pc := 31) dX5_nods_31 cB_89 ?_
      refine g_dup2 C (pc := 33) dX5_nods_33 rfl rfl ?_
      refine g_iald C (pc := 34) dX5_nods_34 0 rfl inb_89_151 (M12 0 89) (congrArg (M12 0) tn_89) ?_
      refine g_iconst C (pc := 35) dX5_nods_35 cI_1 ?_
      refine g_iadd C (pc := 36) dX5_nods_36 ?_
      refine g_iast C (pc := 37) dX5_nods_37 0 rfl inb_89_151 (89) tn_89 (arr1W cA h) (sa M12 0 (up (M12 0) 89 ((M12 0 89) + 1))) rfl (fun M13 eM13 => ?_)
      have hz13 : (Zarr1 M13) := (nd2 hz12 hd c11 eM13)
      refine g_sub [0] rfl ?_
      exact Jw2 M13 hz13

noncomputable def xX5_empties (M : St) : St := nm ((((M 0 19) - ((M 0 19) / 4)) - 1) : Int32) fun x1 => nm (if 0 ≤ x1 then (x1) else (0) : Int32) fun v3 => nm (sa M 0 (up (M 0) 19 v3)) fun M4 => if (5 * (M4 0 2)) < (M4 0 19) then (M4) else (nm (xX5_goesTo M4 1) fun M6 => M6)
set_option maxHeartbeats 4000000 in
set_option maxRecDepth 100000 in
theorem kX5_empties (l : Launch) (D : va_G) (cA : ClassId) (T : Nat × Nat × Nat) (h : Nat → Nat) (M : St) (hz : (Zarr1 M)) : ∀ sz : Nat, Met l yX5_empties wsX5_empties { frames := 1, cells := 0, slots := 0, locals := 21 } (va_Pc [.ref (h 0)] (PreW D cA T (arr1W cA h M) sz)) (va_Qv (fun u => u = (xX5_empties M) ∧ (Zarr1) u) (fun u => PostW D cA (va_A (arr1W cA h M) sz) (arr1W cA h u)) (va_A (arr1W cA h M) sz)) 0 0 (va_A (arr1W cA h M) sz) := by
  refine m_ev (Wf := arr1W cA h) (inv := (Zarr1)) (cc := cX5_empties) (maxL := 2) (own := RX5) (by decide) rfl rfl (Nat.le_of_ble_eq_true rfl) (fun {p e s m args below meth c} A C X => ?_)
  show G p l e { frames := 1, cells := 0, slots := 0, locals := 21 } s m args below meth c 0 0 D A (Qev below D cA A args s 0 0 (arr1W cA h) (Zarr1) X) 2 X (xX5_empties M) (arr1W cA h M) 0 [(0, .ref (h 0))] []
  unfold xX5_empties
  refine g_aload_n C (pc := 0) dX5_empties_0 0 rfl ?_
  refine g_bipush C (pc := 1) dX5_empties_1 cB_19 ?_
  refine g_iald C (pc := 3) dX5_empties_3 0 rfl inb_19_151 (M 0 19) (congrArg (M 0) tn_19) ?_
  refine g_aload_n C (pc := 4) dX5_empties_4 0 rfl ?_
  refine g_bipush C (pc := 5) dX5_empties_5 cB_19 ?_
  refine g_iald C (pc := 7) dX5_empties_7 0 rfl inb_19_151 (M 0 19) (congrArg (M 0) tn_19) ?_
  refine g_iconst C (pc := 8) dX5_empties_8 cI_4 ?_
  refine g_idiv C (pc := 9) dX5_empties_9 nz_4 ?_
  refine g_isub C (pc := 10) dX5_empties_10 ?_
  refine g_iconst C (pc := 11) dX5_empties_11 cI_1 ?_
  refine g_isub C (pc := 12) dX5_empties_12 ?_
  refine g_nmi (fun x1 ex1 => ?_)
  refine g_istore_n C (pc := 13) [(1, .int x1), (0, .ref (h 0))] dX5_empties_13 (by decide) rfl ?_
  refine g_aload_n C (pc := 14) dX5_empties_14 1 rfl ?_
  refine g_bipush C (pc := 15) dX5_empties_15 cB_19 ?_
  refine g_iload_n C (pc := 17) dX5_empties_17 0 rfl ?_
  refine g_join (α := Int32) (fun v3 => [(0, .ref (h 0))]) (fun v3 => [.int v3, .int 19, .ref (h 0)]) 26 (fun v3 ev3 => ?_) (fun Jv3 => ?_)
  · refine g_iast C (pc := 26) dX5_empties_26 0 rfl inb_19_151 (19) tn_19 (arr1W cA h) (sa M 0 (up (M 0) 19 v3)) rfl (fun M4 eM4 => ?_)
    have hz4 : (Zarr1 M4) := by rw [eM4]; exact hz
    refine g_aload_n C (pc := 27) dX5_empties_27 0 rfl ?_
    refine g_bipush C (pc := 28) dX5_empties_28 cB_19 ?_
    refine g_iald C (pc := 30) dX5_empties_30 0 rfl inb_19_151 (M4 0 19) (congrArg (M4 0) tn_19) ?_
    refine g_iconst C (pc := 31) dX5_empties_31 cI_5 ?_
    refine g_aload_n C (pc := 32) dX5_empties_32 0 rfl ?_
    refine g_iconst C (pc := 33) dX5_empties_33 cI_2 ?_
    refine g_iald C (pc := 34) dX5_empties_34 0 rfl inb_2_151 (M4 0 2) (congrArg (M4 0) tn_2) ?_
    refine g_imul C (pc := 35) dX5_empties_35 ?_
    refine g_icmp_gt C (pc := 36) 44 dX5_empties_36 (by decide) (fun c5 => ?_) (fun c5 => ?_)
    · exact r_ev C rfl dX5_empties_44 hz4
    · refine g_aload_n C (pc := 39) dX5_empties_39 0 rfl ?_
      refine g_iconst C (pc := 40) dX5_empties_40 cI_1 ?_
      refine g_Sev C (pc := 41) (As := [.ref (h 0), .int 1]) (kX5_goesTo l D cA T h M4 1 hz4) (v_id (arr1W cA h) M4 1 (fun _ => rfl) rfl) gX5_empties_X5_goesTo rfl ⟨rfl, rfl⟩ ⟨Nat.le_of_ble_eq_true rfl, Nat.le_of_ble_eq_true rfl⟩ ⟨Nat.zero_le _, Nat.zero_le _⟩ rfl (Nat.le_of_ble_eq_true rfl) hdS_X5_goesTo rfl dX5_empties_41 (fun M6 eM6 hz_M6 => ?_)
      have hz6 := hz_M6
      exact r_ev C rfl dX5_empties_44 hz6
  · refine g_if_ge0 C (pc := 18) 25 dX5_empties_18 (by decide) (fun c2 => ?_) (fun c2 => ?_)
    · refine g_iload_n C (pc := 25) dX5_empties_25 0 rfl ?_
      refine g_sub [1] rfl ?_
      exact g_lf (if_pos c2) (Jv3 _ (Eq.symm (if_pos c2)))
    · refine g_iconst C (pc := 21) dX5_empties_21 cI_0 ?_
      refine g_goto C (pc := 22) 26 dX5_empties_22 (by decide) ?_
      refine g_sub [1] rfl ?_
      exact g_lf (if_neg c2) (Jv3 _ (Eq.symm (if_neg c2)))
theorem inX5_airs_5 : ∀ w ∈ u_ws RX5 TX5 14, w ∈ wsX5_airs := by decide +kernel
noncomputable def xX5_airs (v : Nat → Int32) (M : St) : St := nm ((xX5_airOf (sh 0 M) 8) : Int32) fun x1 => nm (if (M 0 12) = 1 then (nm (if 0 ≤ (x1 - ((M 0 20) / 1000)) then ((x1 - ((M 0 20) / 1000))) else (0) : Int32) fun v4 => v4) else (x1) : Int32) fun v5 => nm (if v 7 < 0 then ((xX5_airOf (sh 0 M) 9)) else (v 7) : Int32) fun v7 => nm (((v5 * (v7 + 1)) / 4) : Int32) fun x8 => nm (if (M 0 13) = 1 then ((2 * x8)) else (x8) : Int32) fun v10 => nm ((xX5_lesser v10 (M 0 18)) : Int32) fun x11 => nm (sa M 0 (up (M 0) 18 ((M 0 18) - x11))) fun M12 => nm (sa M12 0 (up (M12 0) 20 ((M12 0 20) + x11))) fun M13 => nm (sa M13 0 (up (M13 0) 21 ((M13 0 21) + x11))) fun M14 => nm ((xX5_airOf (sh 0 M14) 11) : Int32) fun x15 => nm (sa M14 0 (up (M14 0) 16 ((M14 0 16) + (((x15 - (M14 0 16)) / 20) - (x11 / 10))))) fun M16 => nm (sa M16 0 (up (M16 0) 17 ((M16 0 17) + (((x15 - (M16 0 17)) / 20) + ((xX5_airOf (sh 0 M16) 10) * ((M16 0 7) + 1)))))) fun M17 => nm (sa M17 0 (up (M17 0) 28 (((((M17 0 17) - (M17 0 16)) * (M17 0 3)) / (3 * (M17 0 6))) - (M17 0 4)))) fun M18 => M18
set_option maxHeartbeats 4000000 in
set_option maxRecDepth 100000 in
theorem kX5_airs (l : Launch) (D : va_G) (cA : ClassId) (T : Nat × Nat × Nat) (g : Nat → Nat) (v : Nat → Int32) (h : Nat → Nat) (M : St) (hz : (Zmodk M)) : ∀ sz : Nat, Met l yX5_airs wsX5_airs { frames := 1, cells := 0, slots := 0, locals := 25 } (va_Pc [.ref (h 0), .ref (h 1)] (PreW D cA T (modkW cA g v h M) sz)) (va_Qv (fun u => u = (xX5_airs v M) ∧ (Zmodk) u) (fun u => PostW D cA (va_A (modkW cA g v h M) sz) (modkW cA g v h u)) (va_A (modkW cA g v h M) sz)) 0 0 (va_A (modkW cA g v h M) sz) := by
  refine m_ev (Wf := modkW cA g v h) (inv := (Zmodk)) (cc := cX5_airs) (maxL := 6) (own := RX5) (by decide) rfl rfl (Nat.le_of_ble_eq_true rfl) (fun {p e s m args below meth c} A C X => ?_)
  show G p l e { frames := 1, cells := 0, slots := 0, locals := 25 } s m args below meth c 0 0 D A (Qev below D cA A args s 0 0 (modkW cA g v h) (Zmodk) X) 6 X (xX5_airs v M) (modkW cA g v h M) 0 [(0, .ref (h 0)), (1, .ref (h 1))] []
  unfold xX5_airs
  refine g_aload_n C (pc := 0) dX5_airs_0 1 rfl ?_
  refine g_bipush C (pc := 1) dX5_airs_1 cB_8 ?_
  refine g_Spi C (pc := 3) (As := [.ref (h 1), .int 8]) (kX5_airOf l D cA T (sh 1 h) (sh 0 M) 8 hz inb_8_151) (v_modk_arr1_1 cA g v h M) gX5_airs_X5_airOf rfl ⟨rfl, rfl⟩ ⟨Nat.le_of_ble_eq_true rfl, Nat.le_of_ble_eq_true rfl⟩ ⟨Nat.zero_le _, Nat.zero_le _⟩ rfl (Nat.le_of_ble_eq_true rfl) hdS_X5_airOf rfl dX5_airs_3 ?_
  refine g_nmi (fun x1 ex1 => ?_)
  refine g_istore_n C (pc := 6) [(2, .int x1), (0, .ref (h 0)), (1, .ref (h 1))] dX5_airs_6 (by decide) rfl ?_
  refine g_aload_n C (pc := 7) dX5_airs_7 2 rfl ?_
  refine g_bipush C (pc := 8) dX5_airs_8 cB_12 ?_
  refine g_iald C (pc := 10) dX5_airs_10 1 rfl inb_12_151 (M 0 12) (congrArg (M 0) tn_12) ?_
  refine g_iconst C (pc := 11) dX5_airs_11 cI_1 ?_
  refine g_join (α := Int32) (fun v5 => [(0, .ref (h 0)), (1, .ref (h 1)), (2, .int v5)]) (fun v5 => []) 43 (fun v5 ev5 => ?_) (fun Jv5 => ?_)
  · refine g_aload_n C (pc := 43) dX5_airs_43 0 rfl ?_
    refine g_get C (pc := 44) inX5_airs_5 rfl 7 (by decide) (List.mem_of_getElem? (i := 1) rfl) dX5_airs_44 0 rfl (.int (v 7)) rfl ?_
    refine g_join (α := Int32) (fun v7 => [(1, .ref (h 1)), (2, .int v5)]) (fun v7 => [.int v7]) 63 (fun v7 ev7 => ?_) (fun Jv7 => ?_)
    · refine g_istore_n C (pc := 63) [(3, .int v7), (1, .ref (h 1)), (2, .int v5)] dX5_airs_63 (by decide) rfl ?_
      refine g_iload_n C (pc := 64) dX5_airs_64 2 rfl ?_
      refine g_iload_n C (pc := 65) dX5_airs_65 0 rfl ?_
      refine g_iconst C (pc := 66) dX5_airs_66 cI_1 ?_
      refine g_iadd C (pc := 67) dX5_airs_67 ?_
      refine g_imul C (pc := 68) dX5_airs_68 ?_
      refine g_iconst C (pc := 69) dX5_airs_69 cI_4 ?_
      refine g_idiv C (pc := 70) dX5_airs_70 nz_4 ?_
      refine g_nmi (fun x8 ex8 => ?_)
      refine g_istore C (pc := 71) [(4, .int x8), (3, .int v7), (1, .ref (h 1)), (2, .int v5)] dX5_airs_71 (by decide) rfl ?_
      refine g_aload_n C (pc := 73) dX5_airs_73 2 rfl ?_
      refine g_bipush C (pc := 74) dX5_airs_74 cB_13 ?_
      refine g_iald C (pc := 76) dX5_airs_76 1 rfl inb_13_151 (M 0 13) (congrArg (M 0) tn_13) ?_
      refine g_iconst C (pc := 77) dX5_airs_77 cI_1 ?_
      refine g_join (α := Int32) (fun v10 => [(1, .ref (h 1))]) (fun v10 => [.int v10]) 90 (fun v10 ev10 => ?_) (fun Jv10 => ?_)
      · refine g_aload_n C (pc := 90) dX5_airs_90 0 rfl ?_
        refine g_bipush C (pc := 91) dX5_airs_91 cB_18 ?_
        refine g_iald C (pc := 93) dX5_airs_93 1 rfl inb_18_151 (M 0 18) (congrArg (M 0) tn_18) ?_
        refine g_Spi C (pc := 94) (As := [.int v10, .int (M 0 18)]) (kX5_lesser l D cA T v10 (M 0 18)) (v_none (modkW cA g v h M) 2 rfl rfl) gX5_airs_X5_lesser rfl ⟨rfl, rfl⟩ ⟨Nat.le_of_ble_eq_true rfl, Nat.le_of_ble_eq_true rfl⟩ ⟨Nat.zero_le _, Nat.zero_le _⟩ rfl (Nat.le_of_ble_eq_true rfl) hdS_X5_lesser rfl dX5_airs_94 ?_
        refine g_nmi (fun x11 ex11 => ?_)
        refine g_istore C (pc := 97) [(4, .int x11), (1, .ref (h 1))] dX5_airs_97 (by decide) rfl ?_
        refine g_aload_n C (pc := 99) dX5_airs_99 1 rfl ?_
        refine g_bipush C (pc := 100) dX5_airs_100 cB_18 ?_
        refine g_dup2 C (pc := 102) dX5_airs_102 rfl rfl ?_
        refine g_iald C (pc := 103) dX5_airs_103 1 rfl inb_18_151 (M 0 18) (congrArg (M 0) tn_18) ?_
        refine g_iload C (pc := 104) dX5_airs_104 0 rfl ?_
        refine g_isub C (pc := 106) dX5_airs_106 ?_
        refine g_iast C (pc := 107) dX5_airs_107 1 rfl inb_18_151 (18) tn_18 (modkW cA g v h) (sa M 0 (up (M 0) 18 ((M 0 18) - x11))) rfl (fun M12 eM12 => ?_)
        have hz12 : (Zmodk M12) := by rw [eM12]; exact hz
        refine g_aload_n C (pc := 108) dX5_airs_108 1 rfl ?_
        refine g_bipush C (pc := 109) dX5_airs_109 cB_20 ?_
        refine g_dup2 C (pc := 111) dX5_airs_111 rfl rfl ?_
        refine g_iald C (pc := 112) dX5_airs_112 1 rfl inb_20_151 (M12 0 20) (congrArg (M12 0) tn_20) ?_
        refine g_iload C (pc := 113) dX5_airs_113 0 rfl ?_
        refine g_iadd C (pc := 115) dX5_airs_115 ?_
        refine g_iast C (pc := 116) dX5_airs_116 1 rfl inb_20_151 (20) tn_20 (modkW cA g v h) (sa M12 0 (up (M12 0) 20 ((M12 0 20) + x11))) rfl (fun M13 eM13 => ?_)
        have hz13 : (Zmodk M13) := by rw [eM13]; exact hz12
        refine g_aload_n C (pc := 117) dX5_airs_117 1 rfl ?_
        refine g_bipush C (pc := 118) dX5_airs_118 cB_21 ?_
        refine g_dup2 C (pc := 120) dX5_airs_120 rfl rfl ?_
        refine g_iald C (pc := 121) dX5_airs_121 1 rfl inb_21_151 (M13 0 21) (congrArg (M13 0) tn_21) ?_
        refine g_iload C (pc := 122) dX5_airs_122 0 rfl ?_
        refine g_iadd C (pc := 124) dX5_airs_124 ?_
        refine g_iast C (pc := 125) dX5_airs_125 1 rfl inb_21_151 (21) tn_21 (modkW cA g v h) (sa M13 0 (up (M13 0) 21 ((M13 0 21) + x11))) rfl (fun M14 eM14 => ?_)
        have hz14 : (Zmodk M14) := by rw [eM14]; exact hz13
        refine g_aload_n C (pc := 126) dX5_airs_126 1 rfl ?_
        refine g_bipush C (pc := 127) dX5_airs_127 cB_11 ?_
        refine g_Spi C (pc := 129) (As := [.ref (h 1), .int 11]) (kX5_airOf l D cA T (sh 1 h) (sh 0 M14) 11 hz14 inb_11_151) (v_modk_arr1_1 cA g v h M14) gX5_airs_X5_airOf rfl ⟨rfl, rfl⟩ ⟨Nat.le_of_ble_eq_true rfl, Nat.le_of_ble_eq_true rfl⟩ ⟨Nat.zero_le _, Nat.zero_le _⟩ rfl (Nat.le_of_ble_eq_true rfl) hdS_X5_airOf rfl dX5_airs_129 ?_
        refine g_nmi (fun x15 ex15 => ?_)
        refine g_istore C (pc := 132) [(5, .int x15), (4, .int x11), (1, .ref (h 1))] dX5_airs_132 (by decide) rfl ?_
        refine g_aload_n C (pc := 134) dX5_airs_134 2 rfl ?_
        refine g_bipush C (pc := 135) dX5_airs_135 cB_16 ?_
        refine g_dup2 C (pc := 137) dX5_airs_137 rfl rfl ?_
        refine g_iald C (pc := 138) dX5_airs_138 1 rfl inb_16_151 (M14 0 16) (congrArg (M14 0) tn_16) ?_
        refine g_iload C (pc := 139) dX5_airs_139 0 rfl ?_
        refine g_aload_n C (pc := 141) dX5_airs_141 2 rfl ?_
        refine g_bipush C (pc := 142) dX5_airs_142 cB_16 ?_
        refine g_iald C (pc := 144) dX5_airs_144 1 rfl inb_16_151 (M14 0 16) (congrArg (M14 0) tn_16) ?_
        refine g_isub C (pc := 145) dX5_airs_145 ?_
        refine g_bipush C (pc := 146) dX5_airs_146 cB_20 ?_
        refine g_idiv C (pc := 148) dX5_airs_148 nz_20 ?_
        refine g_iload C (pc := 149) dX5_airs_149 1 rfl ?_
        refine g_bipush C (pc := 151) dX5_airs_151 cB_10 ?_
        refine g_idiv C (pc := 153) dX5_airs_153 nz_10 ?_
        refine g_isub C (pc := 154) dX5_airs_154 ?_
        refine g_iadd C (pc := 155) dX5_airs_155 ?_
        refine g_iast C (pc := 156) dX5_airs_156 1 rfl inb_16_151 (16) tn_16 (modkW cA g v h) (sa M14 0 (up (M14 0) 16 ((M14 0 16) + (((x15 - (M14 0 16)) / 20) - (x11 / 10))))) rfl (fun M16 eM16 => ?_)
        have hz16 : (Zmodk M16) := by rw [eM16]; exact hz14
        refine g_aload_n C (pc := 157) dX5_airs_157 2 rfl ?_
        refine g_bipush C (pc := 158) dX5_airs_158 cB_17 ?_
        refine g_dup2 C (pc := 160) dX5_airs_160 rfl rfl ?_
        refine g_iald C (pc := 161) dX5_airs_161 1 rfl inb_17_151 (M16 0 17) (congrArg (M16 0) tn_17) ?_
        refine g_iload C (pc := 162) dX5_airs_162 0 rfl ?_
        refine g_aload_n C (pc := 164) dX5_airs_164 2 rfl ?_
        refine g_bipush C (pc := 165) dX5_airs_165 cB_17 ?_
        refine g_iald C (pc := 167) dX5_airs_167 1 rfl inb_17_151 (M16 0 17) (congrArg (M16 0) tn_17) ?_
        refine g_isub C (pc := 168) dX5_airs_168 ?_
        refine g_bipush C (pc := 169) dX5_airs_169 cB_20 ?_
        refine g_idiv C (pc := 171) dX5_airs_171 nz_20 ?_
        refine g_aload_n C (pc := 172) dX5_airs_172 2 rfl ?_
        refine g_bipush C (pc := 173) dX5_airs_173 cB_10 ?_
        refine g_Spi C (pc := 175) (As := [.ref (h 1), .int 10]) (kX5_airOf l D cA T (sh 1 h) (sh 0 M16) 10 hz16 inb_10_151) (v_modk_arr1_1 cA g v h M16) gX5_airs_X5_airOf rfl ⟨rfl, rfl⟩ ⟨Nat.le_of_ble_eq_true rfl, Nat.le_of_ble_eq_true rfl⟩ ⟨Nat.zero_le _, Nat.zero_le _⟩ rfl (Nat.le_of_ble_eq_true rfl) hdS_X5_airOf rfl dX5_airs_175 ?_
        refine g_aload_n C (pc := 178) dX5_airs_178 2 rfl ?_
        refine g_bipush C (pc := 179) dX5_airs_179 cB_7 ?_
        refine g_iald C (pc := 181) dX5_airs_181 1 rfl inb_7_151 (M16 0 7) (congrArg (M16 0) tn_7) ?_
        refine g_iconst C (pc := 182) dX5_airs_182 cI_1 ?_
        refine g_iadd C (pc := 183) dX5_airs_183 ?_
        refine g_imul C (pc := 184) dX5_airs_184 ?_
        refine g_iadd C (pc := 185) dX5_airs_185 ?_
        refine g_iadd C (pc := 186) dX5_airs_186 ?_
        refine g_iast C (pc := 187) dX5_airs_187 1 rfl inb_17_151 (17) tn_17 (modkW cA g v h) (sa M16 0 (up (M16 0) 17 ((M16 0 17) + (((x15 - (M16 0 17)) / 20) + ((xX5_airOf (sh 0 M16) 10) * ((M16 0 7) + 1)))))) rfl (fun M17 eM17 => ?_)
        have hz17 : (Zmodk M17) := by rw [eM17]; exact hz16
        refine g_aload_n C (pc := 188) dX5_airs_188 2 rfl ?_
        refine g_bipush C (pc := 189) dX5_airs_189 cB_28 ?_
        refine g_aload_n C (pc := 191) dX5_airs_191 2 rfl ?_
        refine g_bipush C (pc := 192) dX5_airs_192 cB_17 ?_
        refine g_iald C (pc := 194) dX5_airs_194 1 rfl inb_17_151 (M17 0 17) (congrArg (M17 0) tn_17) ?_
        refine g_aload_n C (pc := 195) dX5_airs_195 2 rfl ?_
        refine g_bipush C (pc := 196) dX5_airs_196 cB_16 ?_
        refine g_iald C (pc := 198) dX5_airs_198 1 rfl inb_16_151 (M17 0 16) (congrArg (M17 0) tn_16) ?_
        refine g_isub C (pc := 199) dX5_airs_199 ?_
        refine g_aload_n C (pc := 200) dX5_airs_200 2 rfl ?_
        refine g_iconst C (pc := 201) dX5_airs_201 cI_3 ?_
        refine g_iald C (pc := 202) dX5_airs_202 1 rfl inb_3_151 (M17 0 3) (congrArg (M17 0) tn_3) ?_
        refine g_imul C (pc := 203) dX5_airs_203 ?_
        refine g_iconst C (pc := 204) dX5_airs_204 cI_3 ?_
        refine g_aload_n C (pc := 205) dX5_airs_205 2 rfl ?_
        refine g_bipush C (pc := 206) dX5_airs_206 cB_6 ?_
        refine g_iald C (pc := 208) dX5_airs_208 1 rfl inb_6_151 (M17 0 6) (congrArg (M17 0) tn_6) ?_
        refine g_imul C (pc := 209) dX5_airs_209 ?_
        refine g_idiv C (pc := 210) dX5_airs_210 (sz_nz hz17) ?_
        refine g_aload_n C (pc := 211) dX5_airs_211 2 rfl ?_
        refine g_iconst C (pc := 212) dX5_airs_212 cI_4 ?_
        refine g_iald C (pc := 213) dX5_airs_213 1 rfl inb_4_151 (M17 0 4) (congrArg (M17 0) tn_4) ?_
        refine g_isub C (pc := 214) dX5_airs_214 ?_
        refine g_iast C (pc := 215) dX5_airs_215 1 rfl inb_28_151 (28) tn_28 (modkW cA g v h) (sa M17 0 (up (M17 0) 28 (((((M17 0 17) - (M17 0 16)) * (M17 0 3)) / (3 * (M17 0 6))) - (M17 0 4)))) rfl (fun M18 eM18 => ?_)
        have hz18 : (Zmodk M18) := by rw [eM18]; exact hz17
        exact r_ev C rfl dX5_airs_216 hz18
      · refine g_icmp_ne0 C (pc := 78) 88 dX5_airs_78 (by decide) (fun c9 => ?_) (fun c9 => ?_)
        · refine g_iload C (pc := 88) dX5_airs_88 0 rfl ?_
          refine g_sub [2] rfl ?_
          exact g_lf (if_neg c9) (Jv10 _ (Eq.symm (if_neg c9)))
        · refine g_iconst C (pc := 81) dX5_airs_81 cI_2 ?_
          refine g_iload C (pc := 82) dX5_airs_82 0 rfl ?_
          refine g_imul C (pc := 84) dX5_airs_84 ?_
          refine g_goto C (pc := 85) 90 dX5_airs_85 (by decide) ?_
          refine g_sub [2] rfl ?_
          exact g_lf (if_pos c9) (Jv10 _ (Eq.symm (if_pos c9)))
    · refine g_if_lt0 C (pc := 47) 57 dX5_airs_47 (by decide) (fun c6 => ?_) (fun c6 => ?_)
      · refine g_aload_n C (pc := 57) dX5_airs_57 1 rfl ?_
        refine g_bipush C (pc := 58) dX5_airs_58 cB_9 ?_
        refine g_Spi C (pc := 60) (As := [.ref (h 1), .int 9]) (kX5_airOf l D cA T (sh 1 h) (sh 0 M) 9 hz inb_9_151) (v_modk_arr1_1 cA g v h M) gX5_airs_X5_airOf rfl ⟨rfl, rfl⟩ ⟨Nat.le_of_ble_eq_true rfl, Nat.le_of_ble_eq_true rfl⟩ ⟨Nat.zero_le _, Nat.zero_le _⟩ rfl (Nat.le_of_ble_eq_true rfl) hdS_X5_airOf rfl dX5_airs_60 ?_
        refine g_sub [1, 2] rfl ?_
        exact g_lf (if_pos c6) (Jv7 _ (Eq.symm (if_pos c6)))
      · refine g_aload_n C (pc := 50) dX5_airs_50 0 rfl ?_
        refine g_get C (pc := 51) inX5_airs_5 rfl 7 (by decide) (List.mem_of_getElem? (i := 1) rfl) dX5_airs_51 0 rfl (.int (v 7)) rfl ?_
        refine g_goto C (pc := 54) 63 dX5_airs_54 (by decide) ?_
        refine g_sub [1, 2] rfl ?_
        exact g_lf (if_neg c6) (Jv7 _ (Eq.symm (if_neg c6)))
  · refine g_icmp_ne0 C (pc := 12) 43 dX5_airs_12 (by decide) (fun c2 => ?_) (fun c2 => ?_)
    · refine g_sub [1, 2, 0] rfl ?_
      exact g_lf (if_neg c2) (Jv5 _ (Eq.symm (if_neg c2)))
    · refine g_iload_n C (pc := 15) dX5_airs_15 0 rfl ?_
      refine g_aload_n C (pc := 16) dX5_airs_16 2 rfl ?_
      refine g_bipush C (pc := 17) dX5_airs_17 cB_20 ?_
      refine g_iald C (pc := 19) dX5_airs_19 1 rfl inb_20_151 (M 0 20) (congrArg (M 0) tn_20) ?_
      refine g_sipush C (pc := 20) dX5_airs_20 cS_1000 ?_
      refine g_idiv C (pc := 23) dX5_airs_23 nz_1000 ?_
      refine g_isub C (pc := 24) dX5_airs_24 ?_
      refine g_join0 (α := Int32) (if 0 ≤ (x1 - ((M 0 20) / 1000)) then ((x1 - ((M 0 20) / 1000))) else (0)) (fun v4 => [(0, .ref (h 0)), (1, .ref (h 1))]) (fun v4 => [.int v4]) 42 (fun v4 ev4 => ?_) (fun Jv4 => ?_)
      · refine g_istore_n C (pc := 42) [(2, .int v4), (0, .ref (h 0)), (1, .ref (h 1))] dX5_airs_42 (by decide) rfl ?_
        refine g_sub [1, 2, 0] rfl ?_
        exact g_lf ((if_pos c2).trans (nm_of ev4)) (Jv5 _ (Eq.symm ((if_pos c2).trans (nm_of ev4))))
      · refine g_if_ge0 C (pc := 25) 32 dX5_airs_25 (by decide) (fun c3 => ?_) (fun c3 => ?_)
        · refine g_iload_n C (pc := 32) dX5_airs_32 0 rfl ?_
          refine g_aload_n C (pc := 33) dX5_airs_33 2 rfl ?_
          refine g_bipush C (pc := 34) dX5_airs_34 cB_20 ?_
          refine g_iald C (pc := 36) dX5_airs_36 1 rfl inb_20_151 (M 0 20) (congrArg (M 0) tn_20) ?_
          refine g_sipush C (pc := 37) dX5_airs_37 cS_1000 ?_
          refine g_idiv C (pc := 40) dX5_airs_40 nz_1000 ?_
          refine g_isub C (pc := 41) dX5_airs_41 ?_
          refine g_sub [1, 2] rfl ?_
          exact Jv4 _ (Eq.symm (if_pos c3))
        · refine g_iconst C (pc := 28) dX5_airs_28 cI_0 ?_
          refine g_goto C (pc := 29) 42 dX5_airs_29 (by decide) ?_
          refine g_sub [1, 2] rfl ?_
          exact Jv4 _ (Eq.symm (if_neg c3))

noncomputable def xX5_tenth (v : Nat → Int32) (M : St) : St := nm (xX5_airs v M) fun M1 => nm (if (M1 0 24) = 3 then (nm (xX5_empties (sh 0 M1)) fun z13 => nm (put 0 1 z13 M1) fun M14 => M14) else (if (M1 0 24) = 2 then (if (M1 0 25) = 4 then (nm (xX5_nods (sh 0 M1)) fun z9 => nm (put 0 1 z9 M1) fun M10 => M10) else (M1)) else (nm (xX5_rises (sh 0 M1)) fun z11 => nm (put 0 1 z11 M1) fun M12 => M12)) : St) fun w2 => nm (w2) fun M3 => nm (sa M3 0 (up (M3 0) 25 ((M3 0 25) + 1))) fun M4 => nm (sa M4 0 (up (M4 0) 22 ((M4 0 22) + 1))) fun M5 => M5
set_option maxHeartbeats 4000000 in
set_option maxRecDepth 100000 in
theorem kX5_tenth (l : Launch) (D : va_G) (cA : ClassId) (T : Nat × Nat × Nat) (g : Nat → Nat) (v : Nat → Int32) (h : Nat → Nat) (M : St) (hz : (Zmodk M)) : ∀ sz : Nat, Met l yX5_tenth wsX5_tenth { frames := 2, cells := 0, slots := 0, locals := 50 } (va_Pc [.ref (h 0), .ref (h 1)] (PreW D cA T (modkW cA g v h M) sz)) (va_Qv (fun u => u = (xX5_tenth v M) ∧ (Zmodk) u) (fun u => PostW D cA (va_A (modkW cA g v h M) sz) (modkW cA g v h u)) (va_A (modkW cA g v h M) sz)) 0 0 (va_A (modkW cA g v h M) sz) := by
  refine m_ev (Wf := modkW cA g v h) (inv := (Zmodk)) (cc := cX5_tenth) (maxL := 2) (own := RX5) (by decide) rfl rfl (Nat.le_of_ble_eq_true rfl) (fun {p e s m args below meth c} A C X => ?_)
  show G p l e { frames := 2, cells := 0, slots := 0, locals := 50 } s m args below meth c 0 0 D A (Qev below D cA A args s 0 0 (modkW cA g v h) (Zmodk) X) 2 X (xX5_tenth v M) (modkW cA g v h M) 0 [(0, .ref (h 0)), (1, .ref (h 1))] []
  unfold xX5_tenth
  refine g_aload_n C (pc := 0) dX5_tenth_0 0 rfl ?_
  refine g_aload_n C (pc := 1) dX5_tenth_1 1 rfl ?_
  refine g_Vev C (pc := 2) (As := [.ref (h 1)]) (kX5_airs l D cA T g v h M hz) (v_id (modkW cA g v h) M 2 (fun _ => rfl) rfl) gX5_tenth_X5_airs rfl ⟨rfl, rfl⟩ ⟨Nat.le_of_ble_eq_true rfl, Nat.le_of_ble_eq_true rfl⟩ ⟨Nat.zero_le _, Nat.zero_le _⟩ rfl (Nat.le_of_ble_eq_true rfl) hdV_X5_airs 0 rfl rfl rfl dX5_tenth_2 (fun M1 eM1 hz_M1 => ?_)
  have hz1 := hz_M1
  refine g_aload_n C (pc := 5) dX5_tenth_5 1 rfl ?_
  refine g_bipush C (pc := 6) dX5_tenth_6 cB_24 ?_
  refine g_iald C (pc := 8) dX5_tenth_8 1 rfl inb_24_151 (M1 0 24) (congrArg (M1 0) tn_24) ?_
  refine g_iconst C (pc := 9) dX5_tenth_9 cI_3 ?_
  refine g_inner (σ := St) (fun w2 : St => (modkW cA g v h w2)) (fun w2 => [(1, .ref (h 1))]) 47 (fun w2 : St => (Zmodk w2)) (fun w2 ew2 hw2 => ?_) (fun X2 Jw2 => ?_)
  · refine g_nmW (modkW cA g v h) (fun M3 eM3 => ?_)
    have hz3 : (Zmodk M3) := by rw [eM3]; exact hw2
    refine g_aload_n C (pc := 47) dX5_tenth_47 0 rfl ?_
    refine g_bipush C (pc := 48) dX5_tenth_48 cB_25 ?_
    refine g_dup2 C (pc := 50) dX5_tenth_50 rfl rfl ?_
    refine g_iald C (pc := 51) dX5_tenth_51 1 rfl inb_25_151 (M3 0 25) (congrArg (M3 0) tn_25) ?_
    refine g_iconst C (pc := 52) dX5_tenth_52 cI_1 ?_
    refine g_iadd C (pc := 53) dX5_tenth_53 ?_
    refine g_iast C (pc := 54) dX5_tenth_54 1 rfl inb_25_151 (25) tn_25 (modkW cA g v h) (sa M3 0 (up (M3 0) 25 ((M3 0 25) + 1))) rfl (fun M4 eM4 => ?_)
    have hz4 : (Zmodk M4) := by rw [eM4]; exact hz3
    refine g_aload_n C (pc := 55) dX5_tenth_55 0 rfl ?_
    refine g_bipush C (pc := 56) dX5_tenth_56 cB_22 ?_
    refine g_dup2 C (pc := 58) dX5_tenth_58 rfl rfl ?_
    refine g_iald C (pc := 59) dX5_tenth_59 1 rfl inb_22_151 (M4 0 22) (congrArg (M4 0) tn_22) ?_
    refine g_iconst C (pc := 60) dX5_tenth_60 cI_1 ?_
    refine g_iadd C (pc := 61) dX5_tenth_61 ?_
    refine g_iast C (pc := 62) dX5_tenth_62 1 rfl inb_22_151 (22) tn_22 (modkW cA g v h) (sa M4 0 (up (M4 0) 22 ((M4 0 22) + 1))) rfl (fun M5 eM5 => ?_)
    have hz5 : (Zmodk M5) := by rw [eM5]; exact hz4
    exact r_ev C rfl dX5_tenth_63 hz5
  · refine g_icmp_ne C (pc := 10) 20 dX5_tenth_10 (by decide) (fun c6 => ?_) (fun c6 => ?_)
    · refine g_aload_n C (pc := 20) dX5_tenth_20 1 rfl ?_
      refine g_bipush C (pc := 21) dX5_tenth_21 cB_24 ?_
      refine g_iald C (pc := 23) dX5_tenth_23 1 rfl inb_24_151 (M1 0 24) (congrArg (M1 0) tn_24) ?_
      refine g_iconst C (pc := 24) dX5_tenth_24 cI_2 ?_
      refine g_icmp_eq C (pc := 25) 35 dX5_tenth_25 (by decide) (fun c7 => ?_) (fun c7 => ?_)
      · refine g_aload_n C (pc := 35) dX5_tenth_35 1 rfl ?_
        refine g_bipush C (pc := 36) dX5_tenth_36 cB_25 ?_
        refine g_iald C (pc := 38) dX5_tenth_38 1 rfl inb_25_151 (M1 0 25) (congrArg (M1 0) tn_25) ?_
        refine g_iconst C (pc := 39) dX5_tenth_39 cI_4 ?_
        refine g_icmp_ne C (pc := 40) 47 dX5_tenth_40 (by decide) (fun c8 => ?_) (fun c8 => ?_)
        · refine g_sub [1] rfl ?_
          exact Jw2 M1 hz1
        · refine g_aload_n C (pc := 43) dX5_tenth_43 1 rfl ?_
          refine g_Sev C (pc := 44) (As := [.ref (h 1)]) (kX5_nods l D cA T (sh 1 h) (sh 0 M1) hz1) (v_modk_arr1_1 cA g v h M1) gX5_tenth_X5_nods rfl ⟨rfl, rfl⟩ ⟨Nat.le_of_ble_eq_true rfl, Nat.le_of_ble_eq_true rfl⟩ ⟨Nat.zero_le _, Nat.zero_le _⟩ rfl (Nat.le_of_ble_eq_true rfl) hdS_X5_nods rfl dX5_tenth_44 (fun z9 ez9 hz_z9 => ?_)
          refine g_nmW (modkW cA g v h) (fun M10 eM10 => ?_)
          have hz10 : (Zmodk M10) := by rw [eM10]; exact hz_z9
          refine g_sub [1] rfl ?_
          exact Jw2 M10 hz10
      · refine g_aload_n C (pc := 28) dX5_tenth_28 1 rfl ?_
        refine g_Sev C (pc := 29) (As := [.ref (h 1)]) (kX5_rises l D cA T (sh 1 h) (sh 0 M1) hz1) (v_modk_arr1_1 cA g v h M1) gX5_tenth_X5_rises rfl ⟨rfl, rfl⟩ ⟨Nat.le_of_ble_eq_true rfl, Nat.le_of_ble_eq_true rfl⟩ ⟨Nat.zero_le _, Nat.zero_le _⟩ rfl (Nat.le_of_ble_eq_true rfl) hdS_X5_rises rfl dX5_tenth_29 (fun z11 ez11 hz_z11 => ?_)
        refine g_nmW (modkW cA g v h) (fun M12 eM12 => ?_)
        have hz12 : (Zmodk M12) := by rw [eM12]; exact hz_z11
        refine g_goto C (pc := 32) 47 dX5_tenth_32 (by decide) ?_
        refine g_sub [1] rfl ?_
        exact Jw2 M12 hz12
    · refine g_aload_n C (pc := 13) dX5_tenth_13 1 rfl ?_
      refine g_Sev C (pc := 14) (As := [.ref (h 1)]) (kX5_empties l D cA T (sh 1 h) (sh 0 M1) hz1) (v_modk_arr1_1 cA g v h M1) gX5_tenth_X5_empties rfl ⟨rfl, rfl⟩ ⟨Nat.le_of_ble_eq_true rfl, Nat.le_of_ble_eq_true rfl⟩ ⟨Nat.zero_le _, Nat.zero_le _⟩ rfl (Nat.le_of_ble_eq_true rfl) hdS_X5_empties rfl dX5_tenth_14 (fun z13 ez13 hz_z13 => ?_)
      refine g_nmW (modkW cA g v h) (fun M14 eM14 => ?_)
      have hz14 : (Zmodk M14) := by rw [eM14]; exact hz_z13
      refine g_goto C (pc := 17) 47 dX5_tenth_17 (by decide) ?_
      refine g_sub [1] rfl ?_
      exact Jw2 M14 hz14

noncomputable def xX5_goesOn_l2 (v : Nat → Int32) : Nat → St → Int32 → Int32 → Int32 × St
  | 0, M2, _, _ => (0, M2)
  | k + 1, M2, p1, v1 => if p1 ≤ v1 then (((M2 0 23), M2)) else (nm (xX5_tenth v M2) fun M4 => nm (v1 + 1 : Int32) fun x5 => xX5_goesOn_l2 v k M4 p1 x5)
noncomputable def xX5_goesOn (v : Nat → Int32) (M : St) (p1 : Int32) : Int32 × St := xX5_goesOn_l2 v (mu 0 p1 + 1) M p1 0
set_option maxHeartbeats 4000000 in
set_option maxRecDepth 100000 in
theorem kX5_goesOn (l : Launch) (D : va_G) (cA : ClassId) (T : Nat × Nat × Nat) (g : Nat → Nat) (v : Nat → Int32) (h : Nat → Nat) (M : St) (p1 : Int32) (hz : (Zmodk M)) : ∀ sz : Nat, Met l yX5_goesOn wsX5_goesOn { frames := 3, cells := 0, slots := 0, locals := 71 } (va_Pc [.ref (h 0), .ref (h 1), .int p1] (PreW D cA T (modkW cA g v h M) sz)) (va_Qi (fun r u => (r, u) = (xX5_goesOn v M p1) ∧ (Zmodk) u) (fun u => PostW D cA (va_A (modkW cA g v h M) sz) (modkW cA g v h u)) (va_A (modkW cA g v h M) sz)) 0 0 (va_A (modkW cA g v h M) sz) := by
  refine m_ei (Wf := modkW cA g v h) (inv := (Zmodk)) (cc := cX5_goesOn) (maxL := 4) (own := RX5) (by decide) rfl rfl (Nat.le_of_ble_eq_true rfl) (fun {p e s m args below meth c} A C X => ?_)
  show G p l e { frames := 3, cells := 0, slots := 0, locals := 71 } s m args below meth c 0 0 D A (Qei below D cA A args s 0 0 (modkW cA g v h) (Zmodk) X) 4 X (xX5_goesOn v M p1) (modkW cA g v h M) 0 [(0, .ref (h 0)), (1, .ref (h 1)), (2, .int p1)] []
  unfold xX5_goesOn
  refine g_iconst C (pc := 0) dX5_goesOn_0 cI_0 ?_
  refine g_istore_n C (pc := 1) [(3, .int 0), (0, .ref (h 0)), (1, .ref (h 1)), (2, .int p1)] dX5_goesOn_1 (by decide) rfl ?_
  have L2 : ∀ (k : Nat) (M2 : St) (v1 : Int32), (Zmodk M2) → mu v1 p1 < k → G p l e { frames := 3, cells := 0, slots := 0, locals := 71 } s m args below meth c 0 0 D A (Qei below D cA A args s 0 0 (modkW cA g v h) (Zmodk) X) 4 X (xX5_goesOn_l2 v k M2 p1 v1) (modkW cA g v h M2) 2 [(0, .ref (h 0)), (1, .ref (h 1)), (2, .int p1), (3, .int v1)] [] := by
    intro k
    induction k with
    | zero => intro M2 v1 hz2 hmu; exact absurd hmu (Nat.not_lt_zero _)
    | succ k ih =>
      intro M2 v1 hz2 hmu
      rw [xX5_goesOn_l2]
      refine g_iload_n C (pc := 2) dX5_goesOn_2 3 rfl ?_
      refine g_iload_n C (pc := 3) dX5_goesOn_3 2 rfl ?_
      refine g_icmp_ge C (pc := 4) 18 dX5_goesOn_4 (by decide) (fun c3 => ?_) (fun c3 => ?_)
      · refine g_aload_n C (pc := 18) dX5_goesOn_18 1 rfl ?_
        refine g_bipush C (pc := 19) dX5_goesOn_19 cB_23 ?_
        refine g_iald C (pc := 21) dX5_goesOn_21 1 rfl inb_23_151 (M2 0 23) (congrArg (M2 0) tn_23) ?_
        exact r_ei C rfl dX5_goesOn_22 hz2
      · refine g_aload_n C (pc := 7) dX5_goesOn_7 0 rfl ?_
        refine g_aload_n C (pc := 8) dX5_goesOn_8 1 rfl ?_
        refine g_Vev C (pc := 9) (As := [.ref (h 1)]) (kX5_tenth l D cA T g v h M2 hz2) (v_id (modkW cA g v h) M2 2 (fun _ => rfl) rfl) gX5_goesOn_X5_tenth rfl ⟨rfl, rfl⟩ ⟨Nat.le_of_ble_eq_true rfl, Nat.le_of_ble_eq_true rfl⟩ ⟨Nat.zero_le _, Nat.zero_le _⟩ rfl (Nat.le_of_ble_eq_true rfl) hdV_X5_tenth 0 rfl rfl rfl dX5_goesOn_9 (fun M4 eM4 hz_M4 => ?_)
        have hz4 := hz_M4
        refine g_iincN C (pc := 12) 1 (fun y => [(3, .int y), (0, .ref (h 0)), (1, .ref (h 1)), (2, .int p1)]) dX5_goesOn_12 3 rfl cI_1 (by decide) (fun _ => rfl) (fun x5 ex5 => ?_)
        refine g_goto C (pc := 15) 2 dX5_goesOn_15 (by decide) ?_
        refine g_sub [1, 2, 3, 0] rfl ?_
        exact ih M4 x5 hz4 (by rw [ex5]; exact lp_dec c3 hmu)
  refine g_sub [1, 2, 3, 0] rfl ?_
  exact L2 _ M 0 hz (Nat.lt_succ_self _)
theorem inX5_refuse_5 : ∀ w ∈ u_ws RX5 TX5 14, w ∈ wsX5_refuse := by decide +kernel
noncomputable def xX5_refuse (M : St) (p0 : Int32) : Int32 × St := nm (sa M 1 (up (M 1) (((-p0) : Int32).toNatClampNeg) ((M 1 ((-p0) : Int32).toNatClampNeg) + 1))) fun M1 => (p0, M1)
set_option maxHeartbeats 4000000 in
set_option maxRecDepth 100000 in
theorem kX5_refuse (l : Launch) (D : va_G) (cA : ClassId) (T : Nat × Nat × Nat) (h : Nat → Nat) (M : St) (p0 : Int32) (hz : (Zmod M)) (hp : vp_in (-p0) 7) : ∀ sz : Nat, Met l yX5_refuse wsX5_refuse { frames := 0, cells := 0, slots := 0, locals := 0 } (va_Pc [.ref (h 0), .int p0] (PreW D cA T (modW cA h M) sz)) (va_Qi (fun r u => (r, u) = (xX5_refuse M p0) ∧ (Zmod) u) (fun u => PostW D cA (va_A (modW cA h M) sz) (modW cA h u)) (va_A (modW cA h M) sz)) 0 0 (va_A (modW cA h M) sz) := by
  refine m_ei (Wf := modW cA h) (inv := (Zmod)) (cc := cX5_refuse) (maxL := 2) (own := RX5) (by decide) rfl rfl (Nat.le_of_ble_eq_true rfl) (fun {p e s m args below meth c} A C X => ?_)
  show G p l e { frames := 0, cells := 0, slots := 0, locals := 0 } s m args below meth c 0 0 D A (Qei below D cA A args s 0 0 (modW cA h) (Zmod) X) 2 X (xX5_refuse M p0) (modW cA h M) 0 [(0, .ref (h 0)), (1, .int p0)] []
  unfold xX5_refuse
  refine g_aload_n C (pc := 0) dX5_refuse_0 0 rfl ?_
  refine g_get C (pc := 1) inX5_refuse_5 rfl 0 (by decide) (List.mem_of_getElem? (i := 1) rfl) dX5_refuse_1 0 rfl (.ref (h 1)) rfl ?_
  refine g_iload_n C (pc := 4) dX5_refuse_4 1 rfl ?_
  refine g_ineg C (pc := 5) dX5_refuse_5 ?_
  refine g_dup2 C (pc := 6) dX5_refuse_6 rfl rfl ?_
  refine g_iald C (pc := 7) dX5_refuse_7 1 rfl hp (M 1 ((-p0) : Int32).toNatClampNeg) rfl ?_
  refine g_iconst C (pc := 8) dX5_refuse_8 cI_1 ?_
  refine g_iadd C (pc := 9) dX5_refuse_9 ?_
  refine g_iast C (pc := 10) dX5_refuse_10 1 rfl hp (((-p0) : Int32).toNatClampNeg) rfl (modW cA h) (sa M 1 (up (M 1) (((-p0) : Int32).toNatClampNeg) ((M 1 ((-p0) : Int32).toNatClampNeg) + 1))) rfl (fun M1 eM1 => ?_)
  have hz1 : (Zmod M1) := by rw [eM1]; exact hz
  refine g_iload_n C (pc := 11) dX5_refuse_11 1 rfl ?_
  exact r_ei C rfl dX5_refuse_12 hz1

noncomputable def xX5_wrongRun (M : St) (p0 : Int32) : Int32 := (xX5_within p0 1 3000)
set_option maxHeartbeats 4000000 in
set_option maxRecDepth 100000 in
theorem kX5_wrongRun (l : Launch) (D : va_G) (cA : ClassId) (T : Nat × Nat × Nat) (h : Nat → Nat) (M : St) (p0 : Int32) (hz : (Zmod M)) : ∀ sz : Nat, Met l yX5_wrongRun wsX5_wrongRun { frames := 1, cells := 0, slots := 0, locals := 22 } (va_Pc [.ref (h 0), .int p0] (PreW D cA T (modW cA h M) sz)) (va_Qi (fun r (_ : Unit) => r = (xX5_wrongRun M p0)) (fun _ => PostW D cA (va_A (modW cA h M) sz) (modW cA h M)) (va_A (modW cA h M) sz)) 0 0 (va_A (modW cA h M) sz) := by
  refine m_pi (cc := cX5_wrongRun) (maxL := 2) (own := RX5) (by decide) rfl rfl (Nat.le_of_ble_eq_true rfl) (fun {p e s m args below meth c} A C X => ?_)
  show G p l e { frames := 1, cells := 0, slots := 0, locals := 22 } s m args below meth c 0 0 D A (Qpi below D cA A args s (modW cA h M) X) 2 X (xX5_wrongRun M p0) (modW cA h M) 0 [(0, .ref (h 0)), (1, .int p0)] []
  unfold xX5_wrongRun
  refine g_iload_n C (pc := 0) dX5_wrongRun_0 1 rfl ?_
  refine g_iconst C (pc := 1) dX5_wrongRun_1 cI_1 ?_
  refine g_sipush C (pc := 2) dX5_wrongRun_2 cS_3000 ?_
  refine g_Spi C (pc := 5) (As := [.int p0, .int 1, .int 3000]) (kX5_within l D cA T p0 1 3000) (v_none (modW cA h M) 10 rfl rfl) gX5_wrongRun_X5_within rfl ⟨rfl, rfl⟩ ⟨Nat.le_of_ble_eq_true rfl, Nat.le_of_ble_eq_true rfl⟩ ⟨Nat.zero_le _, Nat.zero_le _⟩ rfl (Nat.le_of_ble_eq_true rfl) hdS_X5_within rfl dX5_wrongRun_5 ?_
  exact r_pi C rfl dX5_wrongRun_8
theorem inX5_sign_5 : ∀ w ∈ u_ws RX5 TX5 14, w ∈ wsX5_sign := by decide +kernel
noncomputable def xX5_sign (M : St) : Int32 := if M 0 11 < M 0 10 then ((M 7 (M 0 11 : Int32).toNatClampNeg)) else ((-1))
set_option maxHeartbeats 4000000 in
set_option maxRecDepth 100000 in
theorem kX5_sign (l : Launch) (D : va_G) (cA : ClassId) (T : Nat × Nat × Nat) (h : Nat → Nat) (M : St) (hz : (Zmod M)) : ∀ sz : Nat, Met l yX5_sign wsX5_sign { frames := 0, cells := 0, slots := 0, locals := 0 } (va_Pc [.ref (h 0)] (PreW D cA T (modW cA h M) sz)) (va_Qi (fun r (_ : Unit) => r = (xX5_sign M)) (fun _ => PostW D cA (va_A (modW cA h M) sz) (modW cA h M)) (va_A (modW cA h M) sz)) 0 0 (va_A (modW cA h M) sz) := by
  refine m_pi (cc := cX5_sign) (maxL := 1) (own := RX5) (by decide) rfl rfl (Nat.le_of_ble_eq_true rfl) (fun {p e s m args below meth c} A C X => ?_)
  show G p l e { frames := 0, cells := 0, slots := 0, locals := 0 } s m args below meth c 0 0 D A (Qpi below D cA A args s (modW cA h M) X) 1 X (xX5_sign M) (modW cA h M) 0 [(0, .ref (h 0))] []
  unfold xX5_sign
  refine g_aload_n C (pc := 0) dX5_sign_0 0 rfl ?_
  refine g_get C (pc := 1) inX5_sign_5 rfl 11 (by decide) (List.mem_of_getElem? (i := 1) rfl) dX5_sign_1 0 rfl (.int (M 0 11)) rfl ?_
  refine g_aload_n C (pc := 4) dX5_sign_4 0 rfl ?_
  refine g_get C (pc := 5) inX5_sign_5 rfl 10 (by decide) (List.mem_of_getElem? (i := 2) rfl) dX5_sign_5 0 rfl (.int (M 0 10)) rfl ?_
  refine g_icmp_lt C (pc := 8) 15 dX5_sign_8 (by decide) (fun c1 => ?_) (fun c1 => ?_)
  · refine g_aload_n C (pc := 15) dX5_sign_15 0 rfl ?_
    refine g_get C (pc := 16) inX5_sign_5 rfl 8 (by decide) (List.mem_of_getElem? (i := 3) rfl) dX5_sign_16 0 rfl (.ref (h 7)) rfl ?_
    refine g_aload_n C (pc := 19) dX5_sign_19 0 rfl ?_
    refine g_get C (pc := 20) inX5_sign_5 rfl 11 (by decide) (List.mem_of_getElem? (i := 1) rfl) dX5_sign_20 0 rfl (.int (M 0 11)) rfl ?_
    refine g_iald C (pc := 23) dX5_sign_23 7 rfl (sg_in hz c1) (M 7 (M 0 11 : Int32).toNatClampNeg) rfl ?_
    exact r_pi C rfl dX5_sign_24
  · refine g_iconst C (pc := 11) dX5_sign_11 cI_m1 ?_
    refine g_goto C (pc := 12) 24 dX5_sign_12 (by decide) ?_
    exact r_pi C rfl dX5_sign_24
theorem inX5_takes_5 : ∀ w ∈ u_ws RX5 TX5 14, w ∈ wsX5_takes := by decide +kernel
theorem sg_lt {M : St} (h : ¬ xX5_sign M = -1) : M 0 11 < M 0 10 := by
  unfold xX5_sign at h
  by_cases c : M 0 11 < M 0 10
  · exact c
  · rw [if_neg c] at h
    exact absurd rfl h
theorem tk_z {M N : St} {p0 : Int32} (hz : Zmod M) (hp : ¬ p0 = -1) (c : xX5_sign M = p0) (e : N = sa M 0 (up (M 0) 11 (M 0 11 + 1))) : Zmod N := at_z hz (sg_lt (by rw [c]; exact hp)) e
noncomputable def xX5_takes (M : St) (p0 : Int32) : Int32 × St := if (xX5_sign M) = p0 then (nm (sa M 0 (up (M 0) 11 (M 0 11 + 1))) fun M2 => (1, M2)) else ((0, M))
set_option maxHeartbeats 4000000 in
set_option maxRecDepth 100000 in
theorem kX5_takes (l : Launch) (D : va_G) (cA : ClassId) (T : Nat × Nat × Nat) (h : Nat → Nat) (M : St) (p0 : Int32) (hz : (Zmod M)) (hp : ¬ p0 = -1) : ∀ sz : Nat, Met l yX5_takes wsX5_takes { frames := 1, cells := 0, slots := 0, locals := 20 } (va_Pc [.ref (h 0), .int p0] (PreW D cA T (modW cA h M) sz)) (va_Qi (fun r u => (r, u) = (xX5_takes M p0) ∧ (Zmod) u) (fun u => PostW D cA (va_A (modW cA h M) sz) (modW cA h u)) (va_A (modW cA h M) sz)) 0 0 (va_A (modW cA h M) sz) := by
  refine m_ei (Wf := modW cA h) (inv := (Zmod)) (cc := cX5_takes) (maxL := 2) (own := RX5) (by decide) rfl rfl (Nat.le_of_ble_eq_true rfl) (fun {p e s m args below meth c} A C X => ?_)
  show G p l e { frames := 1, cells := 0, slots := 0, locals := 20 } s m args below meth c 0 0 D A (Qei below D cA A args s 0 0 (modW cA h) (Zmod) X) 2 X (xX5_takes M p0) (modW cA h M) 0 [(0, .ref (h 0)), (1, .int p0)] []
  unfold xX5_takes
  refine g_aload_n C (pc := 0) dX5_takes_0 0 rfl ?_
  refine g_Vpi C (pc := 1) (As := []) (kX5_sign l D cA T h M hz) (v_id (modW cA h) M 10 (fun _ => rfl) rfl) gX5_takes_X5_sign rfl ⟨rfl, rfl⟩ ⟨Nat.le_of_ble_eq_true rfl, Nat.le_of_ble_eq_true rfl⟩ ⟨Nat.zero_le _, Nat.zero_le _⟩ rfl (Nat.le_of_ble_eq_true rfl) hdV_X5_sign 0 rfl rfl rfl dX5_takes_1 ?_
  refine g_iload_n C (pc := 4) dX5_takes_4 1 rfl ?_
  refine g_icmp_eq C (pc := 5) 10 dX5_takes_5 (by decide) (fun c1 => ?_) (fun c1 => ?_)
  · refine g_aload_n C (pc := 10) dX5_takes_10 0 rfl ?_
    refine g_dup C (pc := 11) dX5_takes_11 rfl ?_
    refine g_get C (pc := 12) inX5_takes_5 rfl 11 (by decide) (List.mem_of_getElem? (i := 1) rfl) dX5_takes_12 0 rfl (.int (M 0 11)) rfl ?_
    refine g_iconst C (pc := 15) dX5_takes_15 cI_1 ?_
    refine g_iadd C (pc := 16) dX5_takes_16 ?_
    refine g_put C (pc := 17) tyX5 tyX5_ok nmX5 inX5_takes_5 rfl 11 (by decide) rfl (List.mem_of_getElem? (i := 1) rfl) dX5_takes_17 rfl rfl 0 rfl (Nat.le_of_ble_eq_true rfl) (modW cA h) (sa M 0 (up (M 0) 11 (M 0 11 + 1))) rfl (fun M2 eM2 => ?_)
    have hz2 : (Zmod M2) := (tk_z hz hp c1 eM2)
    refine g_iconst C (pc := 20) dX5_takes_20 cI_1 ?_
    exact r_ez C rfl (rfl) dX5_takes_21 hz2
  · refine g_iconst C (pc := 8) dX5_takes_8 cI_0 ?_
    exact r_ez C rfl (rfl) dX5_takes_9 hz
theorem inX5_readsNumber_5 : ∀ w ∈ u_ws RX5 TX5 14, w ∈ wsX5_readsNumber := by decide +kernel
theorem rn_z {M N K : St} {f : Nat → Int32} (hz : Zmod N) (c : ¬ xX5_sign M < 48) (e0 : N = sa M 8 f) (e : K = sa N 0 (up (N 0) 11 (N 0 11 + 1))) : Zmod K := by
  have h : M 0 11 < M 0 10 := sg_lt (fun q => c (by rw [q]; decide))
  exact at_z hz (by rw [e0]; exact h) e
noncomputable def xX5_readsNumber_j71 (M5 : St) (v4 : Int32) : Int32 × St := if v4 ≤ 0 then ((0, M5)) else ((1, M5))
noncomputable def xX5_readsNumber_l9 : Nat → St → Int32 → Int32 → Int32 → Int32 × St
  | 0, M3, _, _, _ => (0, M3)
  | k + 1, M3, p0, p1, v2 => if p1 ≤ v2 then (xX5_readsNumber_j71 M3 v2) else (if (xX5_sign M3) < 48 then (xX5_readsNumber_j71 M3 v2) else (if 57 < (xX5_sign M3) then (xX5_readsNumber_j71 M3 v2) else (nm (sa M3 8 (up (M3 8) ((p0 : Int32).toNatClampNeg) (((10 * (M3 8 (p0 : Int32).toNatClampNeg)) + (xX5_sign M3)) - 48))) fun M10 => nm (sa M10 0 (up (M10 0) 11 (M10 0 11 + 1))) fun M11 => nm (v2 + 1 : Int32) fun x12 => xX5_readsNumber_l9 k M11 p0 p1 x12)))
noncomputable def xX5_readsNumber (M : St) (p0 : Int32) (p1 : Int32) : Int32 × St := nm (sa M 8 (up (M 8) ((p0 : Int32).toNatClampNeg) 0)) fun M1 => xX5_readsNumber_l9 (mu 0 p1 + 1) M1 p0 p1 0
set_option maxHeartbeats 4000000 in
set_option maxRecDepth 100000 in
theorem kX5_readsNumber (l : Launch) (D : va_G) (cA : ClassId) (T : Nat × Nat × Nat) (h : Nat → Nat) (M : St) (p0 : Int32) (p1 : Int32) (hz : (Zmod M)) (hp : vp_in p0 3) : ∀ sz : Nat, Met l yX5_readsNumber wsX5_readsNumber { frames := 1, cells := 0, slots := 0, locals := 20 } (va_Pc [.ref (h 0), .int p0, .int p1] (PreW D cA T (modW cA h M) sz)) (va_Qi (fun r u => (r, u) = (xX5_readsNumber M p0 p1) ∧ (Zmod) u) (fun u => PostW D cA (va_A (modW cA h M) sz) (modW cA h u)) (va_A (modW cA h M) sz)) 0 0 (va_A (modW cA h M) sz) := by
  refine m_ei (Wf := modW cA h) (inv := (Zmod)) (cc := cX5_readsNumber) (maxL := 4) (own := RX5) (by decide) rfl rfl (Nat.le_of_ble_eq_true rfl) (fun {p e s m args below meth c} A C X => ?_)
  show G p l e { frames := 1, cells := 0, slots := 0, locals := 20 } s m args below meth c 0 0 D A (Qei below D cA A args s 0 0 (modW cA h) (Zmod) X) 4 X (xX5_readsNumber M p0 p1) (modW cA h M) 0 [(0, .ref (h 0)), (1, .int p0), (2, .int p1)] []
  unfold xX5_readsNumber
  refine g_aload_n C (pc := 0) dX5_readsNumber_0 0 rfl ?_
  refine g_get C (pc := 1) inX5_readsNumber_5 rfl 9 (by decide) (List.mem_of_getElem? (i := 1) rfl) dX5_readsNumber_1 0 rfl (.ref (h 8)) rfl ?_
  refine g_iload_n C (pc := 4) dX5_readsNumber_4 1 rfl ?_
  refine g_iconst C (pc := 5) dX5_readsNumber_5 cI_0 ?_
  refine g_iast C (pc := 6) dX5_readsNumber_6 8 rfl hp ((p0 : Int32).toNatClampNeg) rfl (modW cA h) (sa M 8 (up (M 8) ((p0 : Int32).toNatClampNeg) 0)) rfl (fun M1 eM1 => ?_)
  have hz1 : (Zmod M1) := by rw [eM1]; exact hz
  refine g_iconst C (pc := 7) dX5_readsNumber_7 cI_0 ?_
  refine g_istore_n C (pc := 8) [(3, .int 0), (0, .ref (h 0)), (1, .int p0), (2, .int p1)] dX5_readsNumber_8 (by decide) rfl ?_
  have L9 : ∀ (k : Nat) (M3 : St) (v2 : Int32), (Zmod M3) → mu v2 p1 < k → G p l e { frames := 1, cells := 0, slots := 0, locals := 20 } s m args below meth c 0 0 D A (Qei below D cA A args s 0 0 (modW cA h) (Zmod) X) 4 X (xX5_readsNumber_l9 k M3 p0 p1 v2) (modW cA h M3) 9 [(0, .ref (h 0)), (1, .int p0), (2, .int p1), (3, .int v2)] [] := by
    intro k
    induction k with
    | zero => intro M3 v2 hz3 hmu; exact absurd hmu (Nat.not_lt_zero _)
    | succ k ih =>
      intro M3 v2 hz3 hmu
      rw [xX5_readsNumber_l9]
      refine g_iload_n C (pc := 9) dX5_readsNumber_9 3 rfl ?_
      refine g_iload_n C (pc := 10) dX5_readsNumber_10 2 rfl ?_
      have J71 : ∀ (M5 : St) (v4 : Int32), (Zmod M5) → G p l e { frames := 1, cells := 0, slots := 0, locals := 20 } s m args below meth c 0 0 D A (Qei below D cA A args s 0 0 (modW cA h) (Zmod) X) 4 X (xX5_readsNumber_j71 M5 v4) (modW cA h M5) 71 [(3, .int v4)] [] := by
        intro M5 v4 hz5
        unfold xX5_readsNumber_j71
        refine g_iload_n C (pc := 71) dX5_readsNumber_71 0 rfl ?_
        refine g_if_le C (pc := 72) 79 dX5_readsNumber_72 (by decide) (fun c6 => ?_) (fun c6 => ?_)
        · refine g_iconst C (pc := 79) dX5_readsNumber_79 cI_0 ?_
          exact r_ez C rfl (rfl) dX5_readsNumber_80 hz5
        · refine g_iconst C (pc := 75) dX5_readsNumber_75 cI_1 ?_
          refine g_goto C (pc := 76) 80 dX5_readsNumber_76 (by decide) ?_
          exact r_ez C rfl (rfl) dX5_readsNumber_80 hz5
      refine g_icmp_ge C (pc := 11) 71 dX5_readsNumber_11 (by decide) (fun c7 => ?_) (fun c7 => ?_)
      · refine g_sub [3] rfl ?_
        exact J71 M3 v2 hz3
      · refine g_aload_n C (pc := 14) dX5_readsNumber_14 0 rfl ?_
        refine g_Vpi C (pc := 15) (As := []) (kX5_sign l D cA T h M3 hz3) (v_id (modW cA h) M3 10 (fun _ => rfl) rfl) gX5_readsNumber_X5_sign rfl ⟨rfl, rfl⟩ ⟨Nat.le_of_ble_eq_true rfl, Nat.le_of_ble_eq_true rfl⟩ ⟨Nat.zero_le _, Nat.zero_le _⟩ rfl (Nat.le_of_ble_eq_true rfl) hdV_X5_sign 0 rfl rfl rfl dX5_readsNumber_15 ?_
        refine g_bipush C (pc := 18) dX5_readsNumber_18 cB_48 ?_
        refine g_icmp_lt C (pc := 20) 71 dX5_readsNumber_20 (by decide) (fun c8 => ?_) (fun c8 => ?_)
        · refine g_sub [3] rfl ?_
          exact J71 M3 v2 hz3
        · refine g_aload_n C (pc := 23) dX5_readsNumber_23 0 rfl ?_
          refine g_Vpi C (pc := 24) (As := []) (kX5_sign l D cA T h M3 hz3) (v_id (modW cA h) M3 10 (fun _ => rfl) rfl) gX5_readsNumber_X5_sign rfl ⟨rfl, rfl⟩ ⟨Nat.le_of_ble_eq_true rfl, Nat.le_of_ble_eq_true rfl⟩ ⟨Nat.zero_le _, Nat.zero_le _⟩ rfl (Nat.le_of_ble_eq_true rfl) hdV_X5_sign 0 rfl rfl rfl dX5_readsNumber_24 ?_
          refine g_bipush C (pc := 27) dX5_readsNumber_27 cB_57 ?_
          refine g_icmp_gt C (pc := 29) 71 dX5_readsNumber_29 (by decide) (fun c9 => ?_) (fun c9 => ?_)
          · refine g_sub [3] rfl ?_
            exact J71 M3 v2 hz3
          · refine g_aload_n C (pc := 32) dX5_readsNumber_32 0 rfl ?_
            refine g_get C (pc := 33) inX5_readsNumber_5 rfl 9 (by decide) (List.mem_of_getElem? (i := 1) rfl) dX5_readsNumber_33 0 rfl (.ref (h 8)) rfl ?_
            refine g_iload_n C (pc := 36) dX5_readsNumber_36 1 rfl ?_
            refine g_bipush C (pc := 37) dX5_readsNumber_37 cB_10 ?_
            refine g_aload_n C (pc := 39) dX5_readsNumber_39 0 rfl ?_
            refine g_get C (pc := 40) inX5_readsNumber_5 rfl 9 (by decide) (List.mem_of_getElem? (i := 1) rfl) dX5_readsNumber_40 0 rfl (.ref (h 8)) rfl ?_
            refine g_iload_n C (pc := 43) dX5_readsNumber_43 1 rfl ?_
            refine g_iald C (pc := 44) dX5_readsNumber_44 8 rfl hp (M3 8 (p0 : Int32).toNatClampNeg) rfl ?_
            refine g_imul C (pc := 45) dX5_readsNumber_45 ?_
            refine g_aload_n C (pc := 46) dX5_readsNumber_46 0 rfl ?_
            refine g_Vpi C (pc := 47) (As := []) (kX5_sign l D cA T h M3 hz3) (v_id (modW cA h) M3 10 (fun _ => rfl) rfl) gX5_readsNumber_X5_sign rfl ⟨rfl, rfl⟩ ⟨Nat.le_of_ble_eq_true rfl, Nat.le_of_ble_eq_true rfl⟩ ⟨Nat.zero_le _, Nat.zero_le _⟩ rfl (Nat.le_of_ble_eq_true rfl) hdV_X5_sign 0 rfl rfl rfl dX5_readsNumber_47 ?_
            refine g_iadd C (pc := 50) dX5_readsNumber_50 ?_
            refine g_bipush C (pc := 51) dX5_readsNumber_51 cB_48 ?_
            refine g_isub C (pc := 53) dX5_readsNumber_53 ?_
            refine g_iast C (pc := 54) dX5_readsNumber_54 8 rfl hp ((p0 : Int32).toNatClampNeg) rfl (modW cA h) (sa M3 8 (up (M3 8) ((p0 : Int32).toNatClampNeg) (((10 * (M3 8 (p0 : Int32).toNatClampNeg)) + (xX5_sign M3)) - 48))) rfl (fun M10 eM10 => ?_)
            have hz10 : (Zmod M10) := by rw [eM10]; exact hz3
            refine g_aload_n C (pc := 55) dX5_readsNumber_55 0 rfl ?_
            refine g_dup C (pc := 56) dX5_readsNumber_56 rfl ?_
            refine g_get C (pc := 57) inX5_readsNumber_5 rfl 11 (by decide) (List.mem_of_getElem? (i := 2) rfl) dX5_readsNumber_57 0 rfl (.int (M10 0 11)) rfl ?_
            refine g_iconst C (pc := 60) dX5_readsNumber_60 cI_1 ?_
            refine g_iadd C (pc := 61) dX5_readsNumber_61 ?_
            refine g_put C (pc := 62) tyX5 tyX5_ok nmX5 inX5_readsNumber_5 rfl 11 (by decide) rfl (List.mem_of_getElem? (i := 2) rfl) dX5_readsNumber_62 rfl rfl 0 rfl (Nat.le_of_ble_eq_true rfl) (modW cA h) (sa M10 0 (up (M10 0) 11 (M10 0 11 + 1))) rfl (fun M11 eM11 => ?_)
            have hz11 : (Zmod M11) := (rn_z hz10 c8 eM10 eM11)
            refine g_iincN C (pc := 65) 1 (fun y => [(3, .int y), (0, .ref (h 0)), (1, .int p0), (2, .int p1)]) dX5_readsNumber_65 3 rfl cI_1 (by decide) (fun _ => rfl) (fun x12 ex12 => ?_)
            refine g_goto C (pc := 68) 9 dX5_readsNumber_68 (by decide) ?_
            refine g_sub [1, 2, 3, 0] rfl ?_
            exact ih M11 x12 hz11 (by rw [ex12]; exact lp_dec c7 hmu)
  refine g_sub [1, 2, 3, 0] rfl ?_
  exact L9 _ M1 0 hz1 (Nat.lt_succ_self _)
theorem inX5_readsStatement_5 : ∀ w ∈ u_ws RX5 TX5 14, w ∈ wsX5_readsStatement := by decide +kernel
theorem rs_z {M N K : St} (hz : Zmod N) (c : 0 ≤ N 8 0) (e0 : N = sa M 8 (up (M 8) 0 (xX5_thingOf (xX5_sign M)))) (e : K = sa N 0 (up (N 0) 11 (N 0 11 + 1))) : Zmod K := by
  have h : M 0 11 < M 0 10 := sg_lt (fun q => by
    rw [e0] at c
    have c2 : 0 ≤ xX5_thingOf (xX5_sign M) := c
    rw [q] at c2
    unfold xX5_thingOf at c2
    revert c2
    decide)
  exact at_z hz (by rw [e0]; exact h) e
noncomputable def xX5_readsStatement (M : St) : Int32 × St := nm (sa M 8 (up (M 8) 0 (xX5_thingOf (xX5_sign M)))) fun M1 => if 0 ≤ (M1 8 0) then (nm (sa M1 0 (up (M1 0) 11 (M1 0 11 + 1))) fun M3 => nm (xX5_readsNumber M3 1 4) fun z4 => nm (z4.2) fun M5 => if z4.1 = 0 then ((0, M5)) else (nm (xX5_takes M5 58) fun z7 => nm (z7.2) fun M8 => if z7.1 = 0 then ((0, M8)) else (nm (xX5_readsNumber M8 2 3) fun z10 => nm (z10.2) fun M11 => if z10.1 = 0 then ((0, M11)) else (nm (xX5_takes M11 59) fun z13 => nm (z13.2) fun M14 => if z13.1 = 0 then ((0, M14)) else ((1, M14)))))) else ((0, M1))
set_option maxHeartbeats 4000000 in
set_option maxRecDepth 100000 in
theorem kX5_readsStatement (l : Launch) (D : va_G) (cA : ClassId) (T : Nat × Nat × Nat) (h : Nat → Nat) (M : St) (hz : (Zmod M)) : ∀ sz : Nat, Met l yX5_readsStatement wsX5_readsStatement { frames := 2, cells := 0, slots := 0, locals := 43 } (va_Pc [.ref (h 0)] (PreW D cA T (modW cA h M) sz)) (va_Qi (fun r u => (r, u) = (xX5_readsStatement M) ∧ (Zmod) u) (fun u => PostW D cA (va_A (modW cA h M) sz) (modW cA h u)) (va_A (modW cA h M) sz)) 0 0 (va_A (modW cA h M) sz) := by
  refine m_ei (Wf := modW cA h) (inv := (Zmod)) (cc := cX5_readsStatement) (maxL := 1) (own := RX5) (by decide) rfl rfl (Nat.le_of_ble_eq_true rfl) (fun {p e s m args below meth c} A C X => ?_)
  show G p l e { frames := 2, cells := 0, slots := 0, locals := 43 } s m args below meth c 0 0 D A (Qei below D cA A args s 0 0 (modW cA h) (Zmod) X) 1 X (xX5_readsStatement M) (modW cA h M) 0 [(0, .ref (h 0))] []
  unfold xX5_readsStatement
  refine g_aload_n C (pc := 0) dX5_readsStatement_0 0 rfl ?_
  refine g_get C (pc := 1) inX5_readsStatement_5 rfl 9 (by decide) (List.mem_of_getElem? (i := 1) rfl) dX5_readsStatement_1 0 rfl (.ref (h 8)) rfl ?_
  refine g_iconst C (pc := 4) dX5_readsStatement_4 cI_0 ?_
  refine g_aload_n C (pc := 5) dX5_readsStatement_5 0 rfl ?_
  refine g_Vpi C (pc := 6) (As := []) (kX5_sign l D cA T h M hz) (v_id (modW cA h) M 10 (fun _ => rfl) rfl) gX5_readsStatement_X5_sign rfl ⟨rfl, rfl⟩ ⟨Nat.le_of_ble_eq_true rfl, Nat.le_of_ble_eq_true rfl⟩ ⟨Nat.zero_le _, Nat.zero_le _⟩ rfl (Nat.le_of_ble_eq_true rfl) hdV_X5_sign 0 rfl rfl rfl dX5_readsStatement_6 ?_
  refine g_Spi C (pc := 9) (As := [.int (xX5_sign M)]) (kX5_thingOf l D cA T (xX5_sign M)) (v_none (modW cA h M) 10 rfl rfl) gX5_readsStatement_X5_thingOf rfl ⟨rfl, rfl⟩ ⟨Nat.le_of_ble_eq_true rfl, Nat.le_of_ble_eq_true rfl⟩ ⟨Nat.zero_le _, Nat.zero_le _⟩ rfl (Nat.le_of_ble_eq_true rfl) hdS_X5_thingOf rfl dX5_readsStatement_9 ?_
  refine g_iast C (pc := 12) dX5_readsStatement_12 8 rfl inb_0_3 (0) tn_0 (modW cA h) (sa M 8 (up (M 8) 0 (xX5_thingOf (xX5_sign M)))) rfl (fun M1 eM1 => ?_)
  have hz1 : (Zmod M1) := by rw [eM1]; exact hz
  refine g_aload_n C (pc := 13) dX5_readsStatement_13 0 rfl ?_
  refine g_get C (pc := 14) inX5_readsStatement_5 rfl 9 (by decide) (List.mem_of_getElem? (i := 1) rfl) dX5_readsStatement_14 0 rfl (.ref (h 8)) rfl ?_
  refine g_iconst C (pc := 17) dX5_readsStatement_17 cI_0 ?_
  refine g_iald C (pc := 18) dX5_readsStatement_18 8 rfl inb_0_3 (M1 8 0) (congrArg (M1 8) tn_0) ?_
  refine g_if_ge C (pc := 19) 24 dX5_readsStatement_19 (by decide) (fun c2 => ?_) (fun c2 => ?_)
  · refine g_aload_n C (pc := 24) dX5_readsStatement_24 0 rfl ?_
    refine g_dup C (pc := 25) dX5_readsStatement_25 rfl ?_
    refine g_get C (pc := 26) inX5_readsStatement_5 rfl 11 (by decide) (List.mem_of_getElem? (i := 2) rfl) dX5_readsStatement_26 0 rfl (.int (M1 0 11)) rfl ?_
    refine g_iconst C (pc := 29) dX5_readsStatement_29 cI_1 ?_
    refine g_iadd C (pc := 30) dX5_readsStatement_30 ?_
    refine g_put C (pc := 31) tyX5 tyX5_ok nmX5 inX5_readsStatement_5 rfl 11 (by decide) rfl (List.mem_of_getElem? (i := 2) rfl) dX5_readsStatement_31 rfl rfl 0 rfl (Nat.le_of_ble_eq_true rfl) (modW cA h) (sa M1 0 (up (M1 0) 11 (M1 0 11 + 1))) rfl (fun M3 eM3 => ?_)
    have hz3 : (Zmod M3) := (rs_z hz1 c2 eM1 eM3)
    refine g_aload_n C (pc := 34) dX5_readsStatement_34 0 rfl ?_
    refine g_iconst C (pc := 35) dX5_readsStatement_35 cI_1 ?_
    refine g_iconst C (pc := 36) dX5_readsStatement_36 cI_4 ?_
    refine g_Vei C (pc := 37) (As := [.int 1, .int 4]) (kX5_readsNumber l D cA T h M3 1 4 hz3 hp_1_3) (v_id (modW cA h) M3 10 (fun _ => rfl) rfl) gX5_readsStatement_X5_readsNumber rfl ⟨rfl, rfl⟩ ⟨Nat.le_of_ble_eq_true rfl, Nat.le_of_ble_eq_true rfl⟩ ⟨Nat.zero_le _, Nat.zero_le _⟩ rfl (Nat.le_of_ble_eq_true rfl) hdV_X5_readsNumber 0 rfl rfl rfl dX5_readsStatement_37 (fun z4 ez4 hz_z4 => ?_)
    refine g_nmW (modW cA h) (fun M5 eM5 => ?_)
    have hz5 : (Zmod M5) := by rw [eM5]; exact hz_z4
    refine g_if_eq C (pc := 40) 74 dX5_readsStatement_40 (by decide) (fun c6 => ?_) (fun c6 => ?_)
    · refine g_iconst C (pc := 74) dX5_readsStatement_74 cI_0 ?_
      exact r_ez C rfl (rfl) dX5_readsStatement_75 hz5
    · refine g_aload_n C (pc := 43) dX5_readsStatement_43 0 rfl ?_
      refine g_bipush C (pc := 44) dX5_readsStatement_44 cB_58 ?_
      refine g_Vei C (pc := 46) (As := [.int 58]) (kX5_takes l D cA T h M5 58 hz5 ne_58) (v_id (modW cA h) M5 10 (fun _ => rfl) rfl) gX5_readsStatement_X5_takes rfl ⟨rfl, rfl⟩ ⟨Nat.le_of_ble_eq_true rfl, Nat.le_of_ble_eq_true rfl⟩ ⟨Nat.zero_le _, Nat.zero_le _⟩ rfl (Nat.le_of_ble_eq_true rfl) hdV_X5_takes 0 rfl rfl rfl dX5_readsStatement_46 (fun z7 ez7 hz_z7 => ?_)
      refine g_nmW (modW cA h) (fun M8 eM8 => ?_)
      have hz8 : (Zmod M8) := by rw [eM8]; exact hz_z7
      refine g_if_eq C (pc := 49) 74 dX5_readsStatement_49 (by decide) (fun c9 => ?_) (fun c9 => ?_)
      · refine g_iconst C (pc := 74) dX5_readsStatement_74 cI_0 ?_
        exact r_ez C rfl (rfl) dX5_readsStatement_75 hz8
      · refine g_aload_n C (pc := 52) dX5_readsStatement_52 0 rfl ?_
        refine g_iconst C (pc := 53) dX5_readsStatement_53 cI_2 ?_
        refine g_iconst C (pc := 54) dX5_readsStatement_54 cI_3 ?_
        refine g_Vei C (pc := 55) (As := [.int 2, .int 3]) (kX5_readsNumber l D cA T h M8 2 3 hz8 hp_2_3) (v_id (modW cA h) M8 10 (fun _ => rfl) rfl) gX5_readsStatement_X5_readsNumber rfl ⟨rfl, rfl⟩ ⟨Nat.le_of_ble_eq_true rfl, Nat.le_of_ble_eq_true rfl⟩ ⟨Nat.zero_le _, Nat.zero_le _⟩ rfl (Nat.le_of_ble_eq_true rfl) hdV_X5_readsNumber 0 rfl rfl rfl dX5_readsStatement_55 (fun z10 ez10 hz_z10 => ?_)
        refine g_nmW (modW cA h) (fun M11 eM11 => ?_)
        have hz11 : (Zmod M11) := by rw [eM11]; exact hz_z10
        refine g_if_eq C (pc := 58) 74 dX5_readsStatement_58 (by decide) (fun c12 => ?_) (fun c12 => ?_)
        · refine g_iconst C (pc := 74) dX5_readsStatement_74 cI_0 ?_
          exact r_ez C rfl (rfl) dX5_readsStatement_75 hz11
        · refine g_aload_n C (pc := 61) dX5_readsStatement_61 0 rfl ?_
          refine g_bipush C (pc := 62) dX5_readsStatement_62 cB_59 ?_
          refine g_Vei C (pc := 64) (As := [.int 59]) (kX5_takes l D cA T h M11 59 hz11 ne_59) (v_id (modW cA h) M11 10 (fun _ => rfl) rfl) gX5_readsStatement_X5_takes rfl ⟨rfl, rfl⟩ ⟨Nat.le_of_ble_eq_true rfl, Nat.le_of_ble_eq_true rfl⟩ ⟨Nat.zero_le _, Nat.zero_le _⟩ rfl (Nat.le_of_ble_eq_true rfl) hdV_X5_takes 0 rfl rfl rfl dX5_readsStatement_64 (fun z13 ez13 hz_z13 => ?_)
          refine g_nmW (modW cA h) (fun M14 eM14 => ?_)
          have hz14 : (Zmod M14) := by rw [eM14]; exact hz_z13
          refine g_if_eq C (pc := 67) 74 dX5_readsStatement_67 (by decide) (fun c15 => ?_) (fun c15 => ?_)
          · refine g_iconst C (pc := 74) dX5_readsStatement_74 cI_0 ?_
            exact r_ez C rfl (rfl) dX5_readsStatement_75 hz14
          · refine g_iconst C (pc := 70) dX5_readsStatement_70 cI_1 ?_
            refine g_goto C (pc := 71) 75 dX5_readsStatement_71 (by decide) ?_
            exact r_ez C rfl (rfl) dX5_readsStatement_75 hz14
  · refine g_iconst C (pc := 22) dX5_readsStatement_22 cI_0 ?_
    exact r_ez C rfl (rfl) dX5_readsStatement_23 hz1
theorem inX5_gaps_5 : ∀ w ∈ u_ws RX5 TX5 14, w ∈ wsX5_gaps := by decide +kernel
noncomputable def xX5_gaps (M : St) : Int32 := if 2 ≤ (M 2 89) then (((M 2 89) - 1)) else (0)
set_option maxHeartbeats 4000000 in
set_option maxRecDepth 100000 in
theorem kX5_gaps (l : Launch) (D : va_G) (cA : ClassId) (T : Nat × Nat × Nat) (h : Nat → Nat) (M : St) (hz : (Zmod M)) : ∀ sz : Nat, Met l yX5_gaps wsX5_gaps { frames := 0, cells := 0, slots := 0, locals := 0 } (va_Pc [.ref (h 0)] (PreW D cA T (modW cA h M) sz)) (va_Qi (fun r (_ : Unit) => r = (xX5_gaps M)) (fun _ => PostW D cA (va_A (modW cA h M) sz) (modW cA h M)) (va_A (modW cA h M) sz)) 0 0 (va_A (modW cA h M) sz) := by
  refine m_pi (cc := cX5_gaps) (maxL := 1) (own := RX5) (by decide) rfl rfl (Nat.le_of_ble_eq_true rfl) (fun {p e s m args below meth c} A C X => ?_)
  show G p l e { frames := 0, cells := 0, slots := 0, locals := 0 } s m args below meth c 0 0 D A (Qpi below D cA A args s (modW cA h M) X) 1 X (xX5_gaps M) (modW cA h M) 0 [(0, .ref (h 0))] []
  unfold xX5_gaps
  refine g_aload_n C (pc := 0) dX5_gaps_0 0 rfl ?_
  refine g_get C (pc := 1) inX5_gaps_5 rfl 1 (by decide) (List.mem_of_getElem? (i := 1) rfl) dX5_gaps_1 0 rfl (.ref (h 2)) rfl ?_
  refine g_bipush C (pc := 4) dX5_gaps_4 cB_89 ?_
  refine g_iald C (pc := 6) dX5_gaps_6 2 rfl inb_89_151 (M 2 89) (congrArg (M 2) tn_89) ?_
  refine g_iconst C (pc := 7) dX5_gaps_7 cI_2 ?_
  refine g_icmp_ge C (pc := 8) 15 dX5_gaps_8 (by decide) (fun c1 => ?_) (fun c1 => ?_)
  · refine g_aload_n C (pc := 15) dX5_gaps_15 0 rfl ?_
    refine g_get C (pc := 16) inX5_gaps_5 rfl 1 (by decide) (List.mem_of_getElem? (i := 1) rfl) dX5_gaps_16 0 rfl (.ref (h 2)) rfl ?_
    refine g_bipush C (pc := 19) dX5_gaps_19 cB_89 ?_
    refine g_iald C (pc := 21) dX5_gaps_21 2 rfl inb_89_151 (M 2 89) (congrArg (M 2) tn_89) ?_
    refine g_iconst C (pc := 22) dX5_gaps_22 cI_1 ?_
    refine g_isub C (pc := 23) dX5_gaps_23 ?_
    exact r_pi C rfl dX5_gaps_24
  · refine g_iconst C (pc := 11) dX5_gaps_11 cI_0 ?_
    refine g_goto C (pc := 12) 24 dX5_gaps_12 (by decide) ?_
    exact r_pi C rfl dX5_gaps_24
