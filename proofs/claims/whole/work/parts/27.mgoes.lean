theorem inX5_goes_5 : ∀ w ∈ u_ws RX5 TX5 14, w ∈ wsX5_goes := by decide +kernel
noncomputable def xX5_goes_l81 : Nat → St → Int32 → Int32 → Int32 → Int32 → Int32 → Int32 → Int32 → St × Int32 × Int32
  | 0, M23, _, _, _, _, _, _, _ => (M23, 0, 0)
  | k + 1, M23, p0, p1, p2, v20, v21, v11, v22 => if p1 < v22 then ((M23, v20, v21)) else (nm (v21 + 1 : Int32) fun x25 => nm (((M23 2 1) + v11) : Int32) fun x26 => nm (((M23 2 2) + v22) : Int32) fun x27 => if (xX5_within x26 1 99) = 0 then (if (xX5_within x27 10 99) = 0 then (nm (xX5_fresh M23) fun M31 => nm (sa M31 4 (up (M31 4) 1 x26)) fun M32 => nm (sa M32 4 (up (M32 4) 2 x27)) fun M33 => nm (xX5_goesOn (M33 0) (sh 4 M33) p0) fun z34 => nm (put 4 1 z34.2 M33) fun M35 => nm (if z34.1 ≤ 0 then (0) else (1) : Int32) fun v37 => nm ((v20 + v37) : Int32) fun x38 => nm (v22 + 1 : Int32) fun x39 => xX5_goes_l81 k M35 p0 p1 p2 x38 x25 v11 x39) else (nm (v22 + 1 : Int32) fun x40 => xX5_goes_l81 k M23 p0 p1 p2 v20 x25 v11 x40)) else (nm (v22 + 1 : Int32) fun x29 => xX5_goes_l81 k M23 p0 p1 p2 v20 x25 v11 x29))
noncomputable def xX5_goes_l71 : Nat → St → Int32 → Int32 → Int32 → Int32 → Int32 → Int32 → Int32 × St
  | 0, M12, _, _, _, _, _, _ => (0, M12)
  | k + 1, M12, p0, p1, p2, v9, v10, v11 => if p1 < v11 then (nm ((xX5_common v10 v9) : Int32) fun x14 => if p2 = 0 then (((v9 / x14), M12)) else (((v10 / x14), M12))) else (nm ((-p1) : Int32) fun x16 => nm (xX5_goes_l81 (muE x16 p1 + 1) M12 p0 p1 p2 v9 v10 v11 x16 : St × Int32 × Int32) fun w17 => nm (w17.1) fun M18 => nm (v11 + 1 : Int32) fun x19 => xX5_goes_l71 k M18 p0 p1 p2 (w17.2.1) (w17.2.2) x19)
noncomputable def xX5_goes (M : St) (p0 : Int32) (p1 : Int32) (p2 : Int32) : Int32 × St := if (xX5_isIn p2 2) = 0 then (nm (xX5_refuse M (-2)) fun z43 => nm (z43.2) fun M44 => (z43.1, M44)) else (nm (if p0 < 1 then ((-4)) else (if 0 ≤ p1 then (if 300 < p0 then ((-6)) else (if p1 ≤ 5 then (0) else ((-6)))) else ((-4))) : Int32) fun v6 => if v6 = 0 then (nm ((-p1) : Int32) fun x8 => xX5_goes_l71 (muE x8 p1 + 1) M p0 p1 p2 0 0 x8) else (nm (xX5_refuse M v6) fun z41 => nm (z41.2) fun M42 => (z41.1, M42)))
set_option maxHeartbeats 4000000 in
set_option maxRecDepth 100000 in
theorem kX5_goes (l : Launch) (D : va_G) (cA : ClassId) (T : Nat × Nat × Nat) (h : Nat → Nat) (M : St) (p0 : Int32) (p1 : Int32) (p2 : Int32) (hz : (Zmod M)) : ∀ sz : Nat, Met l yX5_goes wsX5_goes { frames := 123, cells := 0, slots := 0, locals := 2583 } (va_Pc [.ref (h 0), .int p0, .int p1, .int p2] (PreW D cA T (modW cA h M) sz)) (va_Qi (fun r u => (r, u) = (xX5_goes M p0 p1 p2) ∧ (Zmod) u) (fun u => PostW D cA (va_A (modW cA h M) sz) (modW cA h u)) (va_A (modW cA h M) sz)) 0 0 (va_A (modW cA h M) sz) := by
  refine m_ei (Wf := modW cA h) (inv := (Zmod)) (cc := cX5_goes) (maxL := 11) (own := RX5) (by decide) rfl rfl (Nat.le_of_ble_eq_true rfl) (fun {p e s m args below meth c} A C X => ?_)
  show G p l e { frames := 123, cells := 0, slots := 0, locals := 2583 } s m args below meth c 0 0 D A (Qei below D cA A args s 0 0 (modW cA h) (Zmod) X) 11 X (xX5_goes M p0 p1 p2) (modW cA h M) 0 [(0, .ref (h 0)), (1, .int p0), (2, .int p1), (3, .int p2)] []
  unfold xX5_goes
  refine g_iload_n C (pc := 0) dX5_goes_0 3 rfl ?_
  refine g_iconst C (pc := 1) dX5_goes_1 cI_2 ?_
  refine g_Spi C (pc := 2) (As := [.int p2, .int 2]) (kX5_isIn l D cA T p2 2) (v_none (modW cA h M) 10 rfl rfl) gX5_goes_X5_isIn rfl ⟨rfl, rfl⟩ ⟨Nat.le_of_ble_eq_true rfl, Nat.le_of_ble_eq_true rfl⟩ ⟨Nat.zero_le _, Nat.zero_le _⟩ rfl (Nat.le_of_ble_eq_true rfl) hdS_X5_isIn rfl dX5_goes_2 ?_
  refine g_if_ne C (pc := 5) 15 dX5_goes_5 (by decide) (fun c1 => ?_) (fun c1 => ?_)
  · refine g_iload_n C (pc := 15) dX5_goes_15 1 rfl ?_
    refine g_iconst C (pc := 16) dX5_goes_16 cI_1 ?_
    refine g_join (α := Int32) (fun v6 => [(0, .ref (h 0)), (1, .int p0), (2, .int p1), (3, .int p2)]) (fun v6 => [.int v6]) 47 (fun v6 ev6 => ?_) (fun Jv6 => ?_)
    · refine g_istore C (pc := 47) [(4, .int v6), (0, .ref (h 0)), (1, .int p0), (2, .int p1), (3, .int p2)] dX5_goes_47 (by decide) rfl ?_
      refine g_iload C (pc := 49) dX5_goes_49 0 rfl ?_
      refine g_if_eq C (pc := 51) 61 dX5_goes_51 (by decide) (fun c7 => ?_) (fun c7 => ?_)
      · have hb := goes5_by ev6 c7
        refine g_iconst C (pc := 61) dX5_goes_61 cI_0 ?_
        refine g_istore C (pc := 62) [(5, .int 0), (4, .int v6), (0, .ref (h 0)), (1, .int p0), (2, .int p1), (3, .int p2)] dX5_goes_62 (by decide) rfl ?_
        refine g_iconst C (pc := 64) dX5_goes_64 cI_0 ?_
        refine g_istore C (pc := 65) [(6, .int 0), (5, .int 0), (4, .int v6), (0, .ref (h 0)), (1, .int p0), (2, .int p1), (3, .int p2)] dX5_goes_65 (by decide) rfl ?_
        refine g_iload_n C (pc := 67) dX5_goes_67 5 rfl ?_
        refine g_ineg C (pc := 68) dX5_goes_68 ?_
        refine g_nmi (fun x8 ex8 => ?_)
        refine g_istore C (pc := 69) [(7, .int x8), (6, .int 0), (5, .int 0), (4, .int v6), (0, .ref (h 0)), (1, .int p0), (2, .int p1), (3, .int p2)] dX5_goes_69 (by decide) rfl ?_
        have L71 : ∀ (k : Nat) (M12 : St) (v9 : Int32) (v10 : Int32) (v11 : Int32), (Zmod M12) → gi p1 v11 v10 v9 → muE v11 p1 < k → G p l e { frames := 123, cells := 0, slots := 0, locals := 2583 } s m args below meth c 0 0 D A (Qei below D cA A args s 0 0 (modW cA h) (Zmod) X) 11 X (xX5_goes_l71 k M12 p0 p1 p2 v9 v10 v11) (modW cA h M12) 71 [(0, .ref (h 0)), (1, .int p0), (2, .int p1), (3, .int p2), (5, .int v9), (6, .int v10), (7, .int v11)] [] := by
          intro k
          induction k with
          | zero => intro M12 v9 v10 v11 hz12 hi hmu; exact absurd hmu (Nat.not_lt_zero _)
          | succ k ih =>
            intro M12 v9 v10 v11 hz12 hi hmu
            rw [xX5_goes_l71]
            refine g_iload C (pc := 71) dX5_goes_71 6 rfl ?_
            refine g_iload_n C (pc := 73) dX5_goes_73 2 rfl ?_
            refine g_icmp_gt C (pc := 74) 192 dX5_goes_74 (by decide) (fun c13 => ?_) (fun c13 => ?_)
            · refine g_iload C (pc := 192) dX5_goes_192 5 rfl ?_
              refine g_iload C (pc := 194) dX5_goes_194 4 rfl ?_
              refine g_Spi C (pc := 196) (As := [.int v10, .int v9]) (kX5_common l D cA T v10 v9 (go_cm hb hi c13)) (v_none (modW cA h M12) 10 rfl rfl) gX5_goes_X5_common rfl ⟨rfl, rfl⟩ ⟨Nat.le_of_ble_eq_true rfl, Nat.le_of_ble_eq_true rfl⟩ ⟨Nat.zero_le _, Nat.zero_le _⟩ rfl (Nat.le_of_ble_eq_true rfl) hdS_X5_common rfl dX5_goes_196 ?_
              refine g_nmi (fun x14 ex14 => ?_)
              refine g_istore C (pc := 199) [(7, .int x14), (0, .ref (h 0)), (1, .int p0), (2, .int p1), (3, .int p2), (5, .int v9), (6, .int v10)] dX5_goes_199 (by decide) rfl ?_
              refine g_iload_n C (pc := 201) dX5_goes_201 4 rfl ?_
              refine g_if_ne C (pc := 202) 213 dX5_goes_202 (by decide) (fun c15 => ?_) (fun c15 => ?_)
              · refine g_iload C (pc := 213) dX5_goes_213 6 rfl ?_
                refine g_iload C (pc := 215) dX5_goes_215 0 rfl ?_
                refine g_idiv C (pc := 217) dX5_goes_217 (go_nz hb hi c13 ex14) ?_
                exact r_ei C rfl dX5_goes_218 hz12
              · refine g_iload C (pc := 205) dX5_goes_205 5 rfl ?_
                refine g_iload C (pc := 207) dX5_goes_207 0 rfl ?_
                refine g_idiv C (pc := 209) dX5_goes_209 (go_nz hb hi c13 ex14) ?_
                refine g_goto C (pc := 210) 218 dX5_goes_210 (by decide) ?_
                exact r_ei C rfl dX5_goes_218 hz12
            · refine g_iload_n C (pc := 77) dX5_goes_77 2 rfl ?_
              refine g_ineg C (pc := 78) dX5_goes_78 ?_
              refine g_nmi (fun x16 ex16 => ?_)
              refine g_istore C (pc := 79) [(8, .int x16), (0, .ref (h 0)), (1, .int p0), (2, .int p1), (3, .int p2), (5, .int v9), (6, .int v10), (7, .int v11)] dX5_goes_79 (by decide) rfl ?_
              refine g_inner (σ := St × Int32 × Int32) (fun w17 : St × Int32 × Int32 => (modW cA h w17.1)) (fun w17 => [(0, .ref (h 0)), (1, .int p0), (2, .int p1), (3, .int p2), (5, .int (w17.2.1)), (6, .int (w17.2.2)), (7, .int v11)]) 186 (fun w17 : St × Int32 × Int32 => (Zmod w17.1) ∧ gw p1 v11 (w17.2.2) (w17.2.1)) (fun w17 ew17 hw17 => ?_) (fun X17 Jw17 => ?_)
              · refine g_nmW (modW cA h) (fun M18 eM18 => ?_)
                have hz18 : (Zmod M18) := by rw [eM18]; exact hw17.1
                have hw : gw p1 v11 (w17.2.2) (w17.2.1) := hw17.2
                refine g_iincN C (pc := 186) 1 (fun y => [(7, .int y), (0, .ref (h 0)), (1, .int p0), (2, .int p1), (3, .int p2), (5, .int (w17.2.1)), (6, .int (w17.2.2))]) dX5_goes_186 6 rfl cI_1 (by decide) (fun _ => rfl) (fun x19 ex19 => ?_)
                refine g_goto C (pc := 189) 71 dX5_goes_189 (by decide) ?_
                refine g_sub [1, 2, 3, 4, 5, 6, 0] rfl ?_
                exact ih M18 (w17.2.1) (w17.2.2) x19 hz18 (gi_s hb hi c13 ex19 hw) (by rw [ex19]; exact lp_decE (d := 1) (by decide) (by5 hb.2) c13 hmu)
              · have L81 : ∀ (k : Nat) (M23 : St) (v20 : Int32) (v21 : Int32) (v22 : Int32), (Zmod M23) → gj p1 v11 v22 v21 v20 → muE v22 p1 < k → G p l e { frames := 123, cells := 0, slots := 0, locals := 2583 } s m args below meth c 0 0 D A (Qei below D cA A args s 0 0 (modW cA h) (Zmod) X) 11 X17 (xX5_goes_l81 k M23 p0 p1 p2 v20 v21 v11 v22) (modW cA h M23) 81 [(0, .ref (h 0)), (1, .int p0), (2, .int p1), (3, .int p2), (5, .int v20), (6, .int v21), (7, .int v11), (8, .int v22)] [] := by
                  intro k
                  induction k with
                  | zero => intro M23 v20 v21 v22 hz23 hj hmu; exact absurd hmu (Nat.not_lt_zero _)
                  | succ k ih =>
                    intro M23 v20 v21 v22 hz23 hj hmu
                    rw [xX5_goes_l81]
                    refine g_iload C (pc := 81) dX5_goes_81 7 rfl ?_
                    refine g_iload_n C (pc := 83) dX5_goes_83 2 rfl ?_
                    refine g_icmp_gt C (pc := 84) 186 dX5_goes_84 (by decide) (fun c24 => ?_) (fun c24 => ?_)
                    · refine g_sub [0, 1, 2, 3, 4, 5, 6] rfl ?_
                      exact Jw17 (M23, v20, v21) ⟨hz23, (gw_of hb hj c24)⟩
                    · refine g_iincN C (pc := 87) 1 (fun y => [(6, .int y), (0, .ref (h 0)), (1, .int p0), (2, .int p1), (3, .int p2), (5, .int v20), (7, .int v11), (8, .int v22)]) dX5_goes_87 5 rfl cI_1 (by decide) (fun _ => rfl) (fun x25 ex25 => ?_)
                      refine g_aload_n C (pc := 90) dX5_goes_90 1 rfl ?_
                      refine g_get C (pc := 91) inX5_goes_5 rfl 1 (by decide) (List.mem_of_getElem? (i := 1) rfl) dX5_goes_91 0 rfl (.ref (h 2)) rfl ?_
                      refine g_iconst C (pc := 94) dX5_goes_94 cI_1 ?_
                      refine g_iald C (pc := 95) dX5_goes_95 2 rfl inb_1_151 (M23 2 1) (congrArg (M23 2) tn_1) ?_
                      refine g_iload C (pc := 96) dX5_goes_96 6 rfl ?_
                      refine g_iadd C (pc := 98) dX5_goes_98 ?_
                      refine g_nmi (fun x26 ex26 => ?_)
                      refine g_istore C (pc := 99) [(9, .int x26), (6, .int x25), (0, .ref (h 0)), (1, .int p0), (2, .int p1), (3, .int p2), (5, .int v20), (7, .int v11), (8, .int v22)] dX5_goes_99 (by decide) rfl ?_
                      refine g_aload_n C (pc := 101) dX5_goes_101 2 rfl ?_
                      refine g_get C (pc := 102) inX5_goes_5 rfl 1 (by decide) (List.mem_of_getElem? (i := 1) rfl) dX5_goes_102 0 rfl (.ref (h 2)) rfl ?_
                      refine g_iconst C (pc := 105) dX5_goes_105 cI_2 ?_
                      refine g_iald C (pc := 106) dX5_goes_106 2 rfl inb_2_151 (M23 2 2) (congrArg (M23 2) tn_2) ?_
                      refine g_iload C (pc := 107) dX5_goes_107 8 rfl ?_
                      refine g_iadd C (pc := 109) dX5_goes_109 ?_
                      refine g_nmi (fun x27 ex27 => ?_)
                      refine g_istore C (pc := 110) [(10, .int x27), (9, .int x26), (6, .int x25), (0, .ref (h 0)), (1, .int p0), (2, .int p1), (3, .int p2), (5, .int v20), (7, .int v11), (8, .int v22)] dX5_goes_110 (by decide) rfl ?_
                      refine g_iload C (pc := 112) dX5_goes_112 1 rfl ?_
                      refine g_iconst C (pc := 114) dX5_goes_114 cI_1 ?_
                      refine g_bipush C (pc := 115) dX5_goes_115 cB_99 ?_
                      refine g_Spi C (pc := 117) (As := [.int x26, .int 1, .int 99]) (kX5_within l D cA T x26 1 99) (v_none (modW cA h M23) 10 rfl rfl) gX5_goes_X5_within rfl ⟨rfl, rfl⟩ ⟨Nat.le_of_ble_eq_true rfl, Nat.le_of_ble_eq_true rfl⟩ ⟨Nat.zero_le _, Nat.zero_le _⟩ rfl (Nat.le_of_ble_eq_true rfl) hdS_X5_within rfl dX5_goes_117 ?_
                      refine g_if_ne C (pc := 120) 180 dX5_goes_120 (by decide) (fun c28 => ?_) (fun c28 => ?_)
                      · refine g_iincN C (pc := 180) 1 (fun y => [(8, .int y), (10, .int x27), (9, .int x26), (6, .int x25), (0, .ref (h 0)), (1, .int p0), (2, .int p1), (3, .int p2), (5, .int v20), (7, .int v11)]) dX5_goes_180 9 rfl cI_1 (by decide) (fun _ => rfl) (fun x29 ex29 => ?_)
                        refine g_goto C (pc := 183) 81 dX5_goes_183 (by decide) ?_
                        refine g_sub [4, 5, 6, 7, 8, 3, 9, 0] rfl ?_
                        exact ih M23 v20 x25 x29 hz23 (gj_s hb hj c24 ex25 ex29 (Or.inl rfl)) (by rw [ex29]; exact lp_decE (d := 1) (by decide) (by5 hb.2) c24 hmu)
                      · refine g_iload C (pc := 123) dX5_goes_123 0 rfl ?_
                        refine g_bipush C (pc := 125) dX5_goes_125 cB_10 ?_
                        refine g_bipush C (pc := 127) dX5_goes_127 cB_99 ?_
                        refine g_Spi C (pc := 129) (As := [.int x27, .int 10, .int 99]) (kX5_within l D cA T x27 10 99) (v_none (modW cA h M23) 10 rfl rfl) gX5_goes_X5_within rfl ⟨rfl, rfl⟩ ⟨Nat.le_of_ble_eq_true rfl, Nat.le_of_ble_eq_true rfl⟩ ⟨Nat.zero_le _, Nat.zero_le _⟩ rfl (Nat.le_of_ble_eq_true rfl) hdS_X5_within rfl dX5_goes_129 ?_
                        refine g_if_eq C (pc := 132) 138 dX5_goes_132 (by decide) (fun c30 => ?_) (fun c30 => ?_)
                        · refine g_aload_n C (pc := 138) dX5_goes_138 3 rfl ?_
                          refine g_Vev C (pc := 139) (As := []) (kX5_fresh l D cA T h M23 hz23) (v_id (modW cA h) M23 10 (fun _ => rfl) rfl) gX5_goes_X5_fresh rfl ⟨rfl, rfl⟩ ⟨Nat.le_of_ble_eq_true rfl, Nat.le_of_ble_eq_true rfl⟩ ⟨Nat.zero_le _, Nat.zero_le _⟩ rfl (Nat.le_of_ble_eq_true rfl) hdV_X5_fresh 0 rfl rfl rfl dX5_goes_139 (fun M31 eM31 hz_M31 => ?_)
                          have hz31 := hz_M31
                          have hm := rz_fresh hz23 eM31
                          refine g_aload_n C (pc := 142) dX5_goes_142 3 rfl ?_
                          refine g_get C (pc := 143) inX5_goes_5 rfl 3 (by decide) (List.mem_of_getElem? (i := 2) rfl) dX5_goes_143 0 rfl (.ref (h 4)) rfl ?_
                          refine g_iconst C (pc := 146) dX5_goes_146 cI_1 ?_
                          refine g_iload C (pc := 147) dX5_goes_147 1 rfl ?_
                          refine g_iast C (pc := 149) dX5_goes_149 4 rfl inb_1_151 (1) tn_1 (modW cA h) (sa M31 4 (up (M31 4) 1 x26)) rfl (fun M32 eM32 => ?_)
                          have hz32 : (Zmod M32) := by rw [eM32]; exact hz31
                          refine g_aload_n C (pc := 150) dX5_goes_150 3 rfl ?_
                          refine g_get C (pc := 151) inX5_goes_5 rfl 3 (by decide) (List.mem_of_getElem? (i := 2) rfl) dX5_goes_151 0 rfl (.ref (h 4)) rfl ?_
                          refine g_iconst C (pc := 154) dX5_goes_154 cI_2 ?_
                          refine g_iload C (pc := 155) dX5_goes_155 0 rfl ?_
                          refine g_iast C (pc := 157) dX5_goes_157 4 rfl inb_2_151 (2) tn_2 (modW cA h) (sa M32 4 (up (M32 4) 2 x27)) rfl (fun M33 eM33 => ?_)
                          have hz33 : (Zmod M33) := by rw [eM33]; exact hz32
                          refine g_iload C (pc := 158) dX5_goes_158 7 rfl ?_
                          refine g_aload_n C (pc := 160) dX5_goes_160 3 rfl ?_
                          refine g_aload_n C (pc := 161) dX5_goes_161 3 rfl ?_
                          refine g_get C (pc := 162) inX5_goes_5 rfl 3 (by decide) (List.mem_of_getElem? (i := 2) rfl) dX5_goes_162 0 rfl (.ref (h 4)) rfl ?_
                          refine g_iload_n C (pc := 165) dX5_goes_165 4 rfl ?_
                          refine g_Vei C (pc := 166) (As := [.ref (h 4), .int p0]) (kX5_goesOn l D cA T h (M33 0) (sh2 0 1 4 h) (sh 4 M33) p0 (by rw [eM33, eM32]; exact hm)) (v_mod_modk_0_4 cA h M33) gX5_goes_X5_goesOn rfl ⟨rfl, rfl⟩ ⟨Nat.le_of_ble_eq_true rfl, Nat.le_of_ble_eq_true rfl⟩ ⟨Nat.zero_le _, Nat.zero_le _⟩ rfl (Nat.le_of_ble_eq_true rfl) hdV_X5_goesOn 0 rfl rfl rfl dX5_goes_166 (fun z34 ez34 hz_z34 => ?_)
                          refine g_nmW (modW cA h) (fun M35 eM35 => ?_)
                          have hz35 : (Zmod M35) := by rw [eM35]; exact hz33
                          refine g_join (α := Int32) (fun v37 => [(0, .ref (h 0)), (1, .int p0), (2, .int p1), (3, .int p2), (6, .int x25), (7, .int v11), (8, .int v22)]) (fun v37 => [.int v37, .int v20]) 177 (fun v37 ev37 => ?_) (fun Jv37 => ?_)
                          · refine g_iadd C (pc := 177) dX5_goes_177 ?_
                            refine g_nmi (fun x38 ex38 => ?_)
                            refine g_istore C (pc := 178) [(5, .int x38), (0, .ref (h 0)), (1, .int p0), (2, .int p1), (3, .int p2), (6, .int x25), (7, .int v11), (8, .int v22)] dX5_goes_178 (by decide) rfl ?_
                            refine g_iincN C (pc := 180) 1 (fun y => [(8, .int y), (5, .int x38), (0, .ref (h 0)), (1, .int p0), (2, .int p1), (3, .int p2), (6, .int x25), (7, .int v11)]) dX5_goes_180 7 rfl cI_1 (by decide) (fun _ => rfl) (fun x39 ex39 => ?_)
                            refine g_goto C (pc := 183) 81 dX5_goes_183 (by decide) ?_
                            refine g_sub [2, 3, 4, 5, 1, 6, 7, 0] rfl ?_
                            exact ih M35 x38 x25 x39 hz35 (gj_s hb hj c24 ex25 ex39 (fit_or ex38 ev37)) (by rw [ex39]; exact lp_decE (d := 1) (by decide) (by5 hb.2) c24 hmu)
                          · refine g_if_le0 C (pc := 169) 176 dX5_goes_169 (by decide) (fun c36 => ?_) (fun c36 => ?_)
                            · refine g_iconst C (pc := 176) dX5_goes_176 cI_0 ?_
                              refine g_sub [3, 4, 5, 6, 2, 8, 9] rfl ?_
                              exact g_lf (if_pos c36) (Jv37 _ (Eq.symm (if_pos c36)))
                            · refine g_iconst C (pc := 172) dX5_goes_172 cI_1 ?_
                              refine g_goto C (pc := 173) 177 dX5_goes_173 (by decide) ?_
                              refine g_sub [3, 4, 5, 6, 2, 8, 9] rfl ?_
                              exact g_lf (if_neg c36) (Jv37 _ (Eq.symm (if_neg c36)))
                        · refine g_goto C (pc := 135) 180 dX5_goes_135 (by decide) ?_
                          refine g_iincN C (pc := 180) 1 (fun y => [(8, .int y), (10, .int x27), (9, .int x26), (6, .int x25), (0, .ref (h 0)), (1, .int p0), (2, .int p1), (3, .int p2), (5, .int v20), (7, .int v11)]) dX5_goes_180 9 rfl cI_1 (by decide) (fun _ => rfl) (fun x40 ex40 => ?_)
                          refine g_goto C (pc := 183) 81 dX5_goes_183 (by decide) ?_
                          refine g_sub [4, 5, 6, 7, 8, 3, 9, 0] rfl ?_
                          exact ih M23 v20 x25 x40 hz23 (gj_s hb hj c24 ex25 ex40 (Or.inl rfl)) (by rw [ex40]; exact lp_decE (d := 1) (by decide) (by5 hb.2) c24 hmu)
                refine g_sub [1, 2, 3, 4, 5, 6, 7, 0] rfl ?_
                exact L81 _ M12 v9 v10 x16 hz12 (gj_0 hb hi c13 ex16) (Nat.lt_succ_self _)
        refine g_sub [4, 5, 6, 7, 2, 1, 0] rfl ?_
        exact L71 _ M 0 0 x8 hz (gi_0 hb ex8) (Nat.lt_succ_self _)
      · refine g_aload_n C (pc := 54) dX5_goes_54 1 rfl ?_
        refine g_iload C (pc := 55) dX5_goes_55 0 rfl ?_
        refine g_Vei C (pc := 57) (As := [.int v6]) (kX5_refuse l D cA T h M v6 hz (rf_vp (rf_of (by rw [ev6]; (repeat' split) <;> first | exact rf0_c (by decide) | exact rf0_within _ _ _ | exact rf0_wrongRun _ _ | exact rf0_wrongSorts _ _) c7))) (v_id (modW cA h) M 10 (fun _ => rfl) rfl) gX5_goes_X5_refuse rfl ⟨rfl, rfl⟩ ⟨Nat.le_of_ble_eq_true rfl, Nat.le_of_ble_eq_true rfl⟩ ⟨Nat.zero_le _, Nat.zero_le _⟩ rfl (Nat.le_of_ble_eq_true rfl) hdV_X5_refuse 0 rfl rfl rfl dX5_goes_57 (fun z41 ez41 hz_z41 => ?_)
        refine g_nmW (modW cA h) (fun M42 eM42 => ?_)
        have hz42 : (Zmod M42) := by rw [eM42]; exact hz_z41
        exact r_ei C rfl dX5_goes_60 hz42
    · refine g_icmp_lt0 C (pc := 17) 24 dX5_goes_17 (by decide) (fun c2 => ?_) (fun c2 => ?_)
      · refine g_bipush C (pc := 24) dX5_goes_24 cB_m4 ?_
        refine g_goto C (pc := 26) 47 dX5_goes_26 (by decide) ?_
        refine g_sub [0, 1, 2, 3] rfl ?_
        exact g_lf (if_pos c2) (Jv6 _ (Eq.symm (if_pos c2)))
      · refine g_iload_n C (pc := 20) dX5_goes_20 2 rfl ?_
        refine g_if_ge0 C (pc := 21) 29 dX5_goes_21 (by decide) (fun c3 => ?_) (fun c3 => ?_)
        · refine g_iload_n C (pc := 29) dX5_goes_29 1 rfl ?_
          refine g_sipush C (pc := 30) dX5_goes_30 cS_300 ?_
          refine g_icmp_gt0 C (pc := 33) 41 dX5_goes_33 (by decide) (fun c4 => ?_) (fun c4 => ?_)
          · refine g_bipush C (pc := 41) dX5_goes_41 cB_m6 ?_
            refine g_goto C (pc := 43) 47 dX5_goes_43 (by decide) ?_
            refine g_sub [0, 1, 2, 3] rfl ?_
            exact g_lf (((if_neg c2).trans (if_pos c3)).trans (if_pos c4)) (Jv6 _ (Eq.symm (((if_neg c2).trans (if_pos c3)).trans (if_pos c4))))
          · refine g_iload_n C (pc := 36) dX5_goes_36 2 rfl ?_
            refine g_iconst C (pc := 37) dX5_goes_37 cI_5 ?_
            refine g_icmp_le0 C (pc := 38) 46 dX5_goes_38 (by decide) (fun c5 => ?_) (fun c5 => ?_)
            · refine g_iconst C (pc := 46) dX5_goes_46 cI_0 ?_
              refine g_sub [0, 1, 2, 3] rfl ?_
              exact g_lf ((((if_neg c2).trans (if_pos c3)).trans (if_neg c4)).trans (if_pos c5)) (Jv6 _ (Eq.symm ((((if_neg c2).trans (if_pos c3)).trans (if_neg c4)).trans (if_pos c5))))
            · refine g_bipush C (pc := 41) dX5_goes_41 cB_m6 ?_
              refine g_goto C (pc := 43) 47 dX5_goes_43 (by decide) ?_
              refine g_sub [0, 1, 2, 3] rfl ?_
              exact g_lf ((((if_neg c2).trans (if_pos c3)).trans (if_neg c4)).trans (if_neg c5)) (Jv6 _ (Eq.symm ((((if_neg c2).trans (if_pos c3)).trans (if_neg c4)).trans (if_neg c5))))
        · refine g_bipush C (pc := 24) dX5_goes_24 cB_m4 ?_
          refine g_goto C (pc := 26) 47 dX5_goes_26 (by decide) ?_
          refine g_sub [0, 1, 2, 3] rfl ?_
          exact g_lf ((if_neg c2).trans (if_neg c3)) (Jv6 _ (Eq.symm ((if_neg c2).trans (if_neg c3))))
  · refine g_aload_n C (pc := 8) dX5_goes_8 0 rfl ?_
    refine g_bipush C (pc := 9) dX5_goes_9 cB_m2 ?_
    refine g_Vei C (pc := 11) (As := [.int (-2)]) (kX5_refuse l D cA T h M (-2) hz rf_m2) (v_id (modW cA h) M 10 (fun _ => rfl) rfl) gX5_goes_X5_refuse rfl ⟨rfl, rfl⟩ ⟨Nat.le_of_ble_eq_true rfl, Nat.le_of_ble_eq_true rfl⟩ ⟨Nat.zero_le _, Nat.zero_le _⟩ rfl (Nat.le_of_ble_eq_true rfl) hdV_X5_refuse 0 rfl rfl rfl dX5_goes_11 (fun z43 ez43 hz_z43 => ?_)
    refine g_nmW (modW cA h) (fun M44 eM44 => ?_)
    have hz44 : (Zmod M44) := by rw [eM44]; exact hz_z43
    exact r_ei C rfl dX5_goes_14 hz44
