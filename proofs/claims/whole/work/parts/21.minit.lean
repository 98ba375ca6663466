theorem inX5_init_5 : ∀ w ∈ u_ws RX5 TX5 14, w ∈ wsX5_init := by decide +kernel
noncomputable def xX5_initT (M : St) : St := nm (sa M 2 (up (M 2) 0 40)) fun M1 => nm (sa M1 2 (up (M1 2) 1 50)) fun M2 => nm (sa M2 2 (up (M2 2) 2 60)) fun M3 => nm (sa M3 2 (up (M3 2) 3 3)) fun M4 => nm (sa M4 2 (up (M4 2) 6 1)) fun M5 => nm (sa M5 2 (up (M5 2) 8 50)) fun M6 => nm (sa M6 2 (up (M6 2) 9 1)) fun M7 => nm (sa M7 2 (up (M7 2) 11 200)) fun M8 => nm (sa M8 2 (up (M8 2) 14 10)) fun M9 => nm (sa M9 2 (up (M9 2) 15 500)) fun M10 => nm (sa M10 2 (up (M10 2) 16 200)) fun M11 => nm (sa M11 2 (up (M11 2) 17 200)) fun M12 => M12
noncomputable def xX5_init : St := xX5_initT (sa Mz 0 (up (Mz 0) 7 (-9)))
set_option maxHeartbeats 4000000 in
set_option maxRecDepth 100000 in
theorem kX5_init (l : Launch) (D : va_G) (cA : ClassId) (T : Nat × Nat × Nat) (a : Nat) : ∀ sz : Nat, Met l yX5_init wsX5_init { frames := 1, cells := 9, slots := 839, locals := 12 } (va_Pc [.ref a] (PreW D cA T [(a, .inr (5, [.null, .null, .null, .null, .null, .null, .int 0, .int 0, .null, .null, .int 0, .int 0, .null, .int 0]))] sz)) (va_Qv (fun u : (Nat → Nat) × St => u.1 0 = a ∧ u.2 = xX5_init) (fun u => PostW D cA (va_A [(a, .inr (5, [.null, .null, .null, .null, .null, .null, .int 0, .int 0, .null, .null, .int 0, .int 0, .null, .int 0]))] sz) (modW cA u.1 u.2)) (va_A [(a, .inr (5, [.null, .null, .null, .null, .null, .null, .int 0, .int 0, .null, .null, .int 0, .int 0, .null, .int 0]))] sz)) 9 839 (va_A [(a, .inr (5, [.null, .null, .null, .null, .null, .null, .int 0, .int 0, .null, .null, .int 0, .int 0, .null, .int 0]))] sz) := by
  refine m_in (cc := cX5_init) (maxL := 1) (own := RX5) 9 839 (by decide) rfl rfl (Nat.le_of_ble_eq_true rfl) (fun {p e s m args below meth c} A C hin => ?_)
  refine g_aload_n C (pc := 0) dX5_init_0 0 rfl ?_
  refine g_objInit C (pc := 1) (List.mem_of_getElem? (i := 1) rfl) (List.mem_of_getElem? (i := 2) rfl) (List.mem_of_getElem? (i := 3) rfl) dX5_init_1 (Nat.le_of_ble_eq_true rfl) (Nat.le_of_ble_eq_true rfl) ?_
  refine g_aload_n C (pc := 4) dX5_init_4 0 rfl ?_
  refine g_bipush C (pc := 5) dX5_init_5 cB_7 ?_
  refine g_newa C (pc := 7) (n := 7) (N := 7) (List.mem_of_getElem? (i := 4) rfl) (by decide) tn_7 (Nat.le_of_ble_eq_true rfl) ⟨Nat.le_of_ble_eq_true rfl, Nat.le_of_ble_eq_true rfl⟩ dX5_init_7 (fun q7 => ?_)
  refine g_putF C (pc := 9) tyX5 tyX5_ok nmX5 inX5_init_5 rfl 0 (by decide) rfl hin rfl (List.mem_of_getElem? (i := 5) rfl) dX5_init_9 rfl rfl 0 rfl (Nat.le_of_ble_eq_true rfl) (ws2 := ((a, .inr (5, [.ref q7, .null, .null, .null, .null, .null, .int 0, .int 0, .null, .null, .int 0, .int 0, .null, .int 0])) :: [(q7, .inl (cA, 7, .inl (fun _ => 0)))])) rfl ?_
  refine g_aload_n C (pc := 12) dX5_init_12 0 rfl ?_
  refine g_sipush C (pc := 13) dX5_init_13 cS_151 ?_
  refine g_newa C (pc := 16) (n := 151) (N := 151) (List.mem_of_getElem? (i := 4) rfl) (by decide) tn_151 (Nat.le_of_ble_eq_true rfl) ⟨Nat.le_of_ble_eq_true rfl, Nat.le_of_ble_eq_true rfl⟩ dX5_init_16 (fun q16 => ?_)
  refine g_putF C (pc := 18) tyX5 tyX5_ok nmX5 inX5_init_5 rfl 1 (by decide) rfl hin rfl (List.mem_of_getElem? (i := 6) rfl) dX5_init_18 rfl rfl 0 rfl (Nat.le_of_ble_eq_true rfl) (ws2 := ((a, .inr (5, [.ref q7, .ref q16, .null, .null, .null, .null, .int 0, .int 0, .null, .null, .int 0, .int 0, .null, .int 0])) :: ([(q7, .inl (cA, 7, .inl (fun _ => 0)))] ++ [(q16, .inl (cA, 151, .inl (fun _ => 0)))]))) rfl ?_
  refine g_aload_n C (pc := 21) dX5_init_21 0 rfl ?_
  refine g_sipush C (pc := 22) dX5_init_22 cS_151 ?_
  refine g_newa C (pc := 25) (n := 151) (N := 151) (List.mem_of_getElem? (i := 4) rfl) (by decide) tn_151 (Nat.le_of_ble_eq_true rfl) ⟨Nat.le_of_ble_eq_true rfl, Nat.le_of_ble_eq_true rfl⟩ dX5_init_25 (fun q25 => ?_)
  refine g_putF C (pc := 27) tyX5 tyX5_ok nmX5 inX5_init_5 rfl 2 (by decide) rfl hin rfl (List.mem_of_getElem? (i := 7) rfl) dX5_init_27 rfl rfl 0 rfl (Nat.le_of_ble_eq_true rfl) (ws2 := ((a, .inr (5, [.ref q7, .ref q16, .ref q25, .null, .null, .null, .int 0, .int 0, .null, .null, .int 0, .int 0, .null, .int 0])) :: ([(q7, .inl (cA, 7, .inl (fun _ => 0)))] ++ ([(q16, .inl (cA, 151, .inl (fun _ => 0)))] ++ [(q25, .inl (cA, 151, .inl (fun _ => 0)))])))) rfl ?_
  refine g_aload_n C (pc := 30) dX5_init_30 0 rfl ?_
  refine g_sipush C (pc := 31) dX5_init_31 cS_151 ?_
  refine g_newa C (pc := 34) (n := 151) (N := 151) (List.mem_of_getElem? (i := 4) rfl) (by decide) tn_151 (Nat.le_of_ble_eq_true rfl) ⟨Nat.le_of_ble_eq_true rfl, Nat.le_of_ble_eq_true rfl⟩ dX5_init_34 (fun q34 => ?_)
  refine g_putF C (pc := 36) tyX5 tyX5_ok nmX5 inX5_init_5 rfl 3 (by decide) rfl hin rfl (List.mem_of_getElem? (i := 8) rfl) dX5_init_36 rfl rfl 0 rfl (Nat.le_of_ble_eq_true rfl) (ws2 := ((a, .inr (5, [.ref q7, .ref q16, .ref q25, .ref q34, .null, .null, .int 0, .int 0, .null, .null, .int 0, .int 0, .null, .int 0])) :: ([(q7, .inl (cA, 7, .inl (fun _ => 0)))] ++ ([(q16, .inl (cA, 151, .inl (fun _ => 0)))] ++ ([(q25, .inl (cA, 151, .inl (fun _ => 0)))] ++ [(q34, .inl (cA, 151, .inl (fun _ => 0)))]))))) rfl ?_
  refine g_aload_n C (pc := 39) dX5_init_39 0 rfl ?_
  refine g_sipush C (pc := 40) dX5_init_40 cS_151 ?_
  refine g_newa C (pc := 43) (n := 151) (N := 151) (List.mem_of_getElem? (i := 4) rfl) (by decide) tn_151 (Nat.le_of_ble_eq_true rfl) ⟨Nat.le_of_ble_eq_true rfl, Nat.le_of_ble_eq_true rfl⟩ dX5_init_43 (fun q43 => ?_)
  refine g_putF C (pc := 45) tyX5 tyX5_ok nmX5 inX5_init_5 rfl 4 (by decide) rfl hin rfl (List.mem_of_getElem? (i := 9) rfl) dX5_init_45 rfl rfl 0 rfl (Nat.le_of_ble_eq_true rfl) (ws2 := ((a, .inr (5, [.ref q7, .ref q16, .ref q25, .ref q34, .ref q43, .null, .int 0, .int 0, .null, .null, .int 0, .int 0, .null, .int 0])) :: ([(q7, .inl (cA, 7, .inl (fun _ => 0)))] ++ ([(q16, .inl (cA, 151, .inl (fun _ => 0)))] ++ ([(q25, .inl (cA, 151, .inl (fun _ => 0)))] ++ ([(q34, .inl (cA, 151, .inl (fun _ => 0)))] ++ [(q43, .inl (cA, 151, .inl (fun _ => 0)))])))))) rfl ?_
  refine g_aload_n C (pc := 48) dX5_init_48 0 rfl ?_
  refine g_sipush C (pc := 49) dX5_init_49 cS_151 ?_
  refine g_newa C (pc := 52) (n := 151) (N := 151) (List.mem_of_getElem? (i := 4) rfl) (by decide) tn_151 (Nat.le_of_ble_eq_true rfl) ⟨Nat.le_of_ble_eq_true rfl, Nat.le_of_ble_eq_true rfl⟩ dX5_init_52 (fun q52 => ?_)
  refine g_putF C (pc := 54) tyX5 tyX5_ok nmX5 inX5_init_5 rfl 5 (by decide) rfl hin rfl (List.mem_of_getElem? (i := 10) rfl) dX5_init_54 rfl rfl 0 rfl (Nat.le_of_ble_eq_true rfl) (ws2 := ((a, .inr (5, [.ref q7, .ref q16, .ref q25, .ref q34, .ref q43, .ref q52, .int 0, .int 0, .null, .null, .int 0, .int 0, .null, .int 0])) :: ([(q7, .inl (cA, 7, .inl (fun _ => 0)))] ++ ([(q16, .inl (cA, 151, .inl (fun _ => 0)))] ++ ([(q25, .inl (cA, 151, .inl (fun _ => 0)))] ++ ([(q34, .inl (cA, 151, .inl (fun _ => 0)))] ++ ([(q43, .inl (cA, 151, .inl (fun _ => 0)))] ++ [(q52, .inl (cA, 151, .inl (fun _ => 0)))]))))))) rfl ?_
  refine g_aload_n C (pc := 57) dX5_init_57 0 rfl ?_
  refine g_bipush C (pc := 58) dX5_init_58 cB_m9 ?_
  refine g_putL C (pc := 60) tyX5 tyX5_ok nmX5 inX5_init_5 rfl 7 (by decide) rfl (List.mem_of_getElem? (i := 11) rfl) dX5_init_60 rfl rfl 0 rfl (Nat.le_of_ble_eq_true rfl) (ws2 := ((a, .inr (5, [.ref q7, .ref q16, .ref q25, .ref q34, .ref q43, .ref q52, .int 0, .int (-9), .null, .null, .int 0, .int 0, .null, .int 0])) :: ([(q7, .inl (cA, 7, .inl (fun _ => 0)))] ++ ([(q16, .inl (cA, 151, .inl (fun _ => 0)))] ++ ([(q25, .inl (cA, 151, .inl (fun _ => 0)))] ++ ([(q34, .inl (cA, 151, .inl (fun _ => 0)))] ++ ([(q43, .inl (cA, 151, .inl (fun _ => 0)))] ++ [(q52, .inl (cA, 151, .inl (fun _ => 0)))]))))))) rfl ?_
  refine g_aload_n C (pc := 63) dX5_init_63 0 rfl ?_
  refine g_bipush C (pc := 64) dX5_init_64 cB_64 ?_
  refine g_newa C (pc := 66) (n := 64) (N := 64) (List.mem_of_getElem? (i := 4) rfl) (by decide) tn_64 (Nat.le_of_ble_eq_true rfl) ⟨Nat.le_of_ble_eq_true rfl, Nat.le_of_ble_eq_true rfl⟩ dX5_init_66 (fun q66 => ?_)
  refine g_putF C (pc := 68) tyX5 tyX5_ok nmX5 inX5_init_5 rfl 8 (by decide) rfl hin rfl (List.mem_of_getElem? (i := 12) rfl) dX5_init_68 rfl rfl 0 rfl (Nat.le_of_ble_eq_true rfl) (ws2 := ((a, .inr (5, [.ref q7, .ref q16, .ref q25, .ref q34, .ref q43, .ref q52, .int 0, .int (-9), .ref q66, .null, .int 0, .int 0, .null, .int 0])) :: ([(q7, .inl (cA, 7, .inl (fun _ => 0)))] ++ ([(q16, .inl (cA, 151, .inl (fun _ => 0)))] ++ ([(q25, .inl (cA, 151, .inl (fun _ => 0)))] ++ ([(q34, .inl (cA, 151, .inl (fun _ => 0)))] ++ ([(q43, .inl (cA, 151, .inl (fun _ => 0)))] ++ ([(q52, .inl (cA, 151, .inl (fun _ => 0)))] ++ [(q66, .inl (cA, 64, .inl (fun _ => 0)))])))))))) rfl ?_
  refine g_aload_n C (pc := 71) dX5_init_71 0 rfl ?_
  refine g_iconst C (pc := 72) dX5_init_72 cI_3 ?_
  refine g_newa C (pc := 73) (n := 3) (N := 3) (List.mem_of_getElem? (i := 4) rfl) (by decide) tn_3 (Nat.le_of_ble_eq_true rfl) ⟨Nat.le_of_ble_eq_true rfl, Nat.le_of_ble_eq_true rfl⟩ dX5_init_73 (fun q73 => ?_)
  refine g_putF C (pc := 75) tyX5 tyX5_ok nmX5 inX5_init_5 rfl 9 (by decide) rfl hin rfl (List.mem_of_getElem? (i := 13) rfl) dX5_init_75 rfl rfl 0 rfl (Nat.le_of_ble_eq_true rfl) (ws2 := ((a, .inr (5, [.ref q7, .ref q16, .ref q25, .ref q34, .ref q43, .ref q52, .int 0, .int (-9), .ref q66, .ref q73, .int 0, .int 0, .null, .int 0])) :: ([(q7, .inl (cA, 7, .inl (fun _ => 0)))] ++ ([(q16, .inl (cA, 151, .inl (fun _ => 0)))] ++ ([(q25, .inl (cA, 151, .inl (fun _ => 0)))] ++ ([(q34, .inl (cA, 151, .inl (fun _ => 0)))] ++ ([(q43, .inl (cA, 151, .inl (fun _ => 0)))] ++ ([(q52, .inl (cA, 151, .inl (fun _ => 0)))] ++ ([(q66, .inl (cA, 64, .inl (fun _ => 0)))] ++ [(q73, .inl (cA, 3, .inl (fun _ => 0)))]))))))))) rfl ?_
  refine g_aload_n C (pc := 78) dX5_init_78 0 rfl ?_
  refine g_bipush C (pc := 79) dX5_init_79 cB_10 ?_
  refine g_newa C (pc := 81) (n := 10) (N := 10) (List.mem_of_getElem? (i := 4) rfl) (by decide) tn_10 (Nat.le_of_ble_eq_true rfl) ⟨Nat.le_of_ble_eq_true rfl, Nat.le_of_ble_eq_true rfl⟩ dX5_init_81 (fun q81 => ?_)
  refine g_putF C (pc := 83) tyX5 tyX5_ok nmX5 inX5_init_5 rfl 12 (by decide) rfl hin rfl (List.mem_of_getElem? (i := 14) rfl) dX5_init_83 rfl rfl 0 rfl (Nat.le_of_ble_eq_true rfl) (ws2 := ((a, .inr (5, [.ref q7, .ref q16, .ref q25, .ref q34, .ref q43, .ref q52, .int 0, .int (-9), .ref q66, .ref q73, .int 0, .int 0, .ref q81, .int 0])) :: ([(q7, .inl (cA, 7, .inl (fun _ => 0)))] ++ ([(q16, .inl (cA, 151, .inl (fun _ => 0)))] ++ ([(q25, .inl (cA, 151, .inl (fun _ => 0)))] ++ ([(q34, .inl (cA, 151, .inl (fun _ => 0)))] ++ ([(q43, .inl (cA, 151, .inl (fun _ => 0)))] ++ ([(q52, .inl (cA, 151, .inl (fun _ => 0)))] ++ ([(q66, .inl (cA, 64, .inl (fun _ => 0)))] ++ ([(q73, .inl (cA, 3, .inl (fun _ => 0)))] ++ [(q81, .inl (cA, 10, .inl (fun _ => 0)))])))))))))) rfl ?_
  obtain ⟨h, M, ha, hM, hw⟩ : ∃ (h : Nat → Nat) (M : St), h 0 = a ∧ M = (sa Mz 0 (up (Mz 0) 7 (-9))) ∧ ((a, .inr (5, [.ref q7, .ref q16, .ref q25, .ref q34, .ref q43, .ref q52, .int 0, .int (-9), .ref q66, .ref q73, .int 0, .int 0, .ref q81, .int 0])) :: ([(q7, .inl (cA, 7, .inl (fun _ => 0)))] ++ ([(q16, .inl (cA, 151, .inl (fun _ => 0)))] ++ ([(q25, .inl (cA, 151, .inl (fun _ => 0)))] ++ ([(q34, .inl (cA, 151, .inl (fun _ => 0)))] ++ ([(q43, .inl (cA, 151, .inl (fun _ => 0)))] ++ ([(q52, .inl (cA, 151, .inl (fun _ => 0)))] ++ ([(q66, .inl (cA, 64, .inl (fun _ => 0)))] ++ ([(q73, .inl (cA, 3, .inl (fun _ => 0)))] ++ [(q81, .inl (cA, 10, .inl (fun _ => 0)))]))))))))) = modW cA h M := ⟨(fun k : Nat => bif Nat.beq k 0 then a else (bif Nat.blt k 2 then q7 else (bif Nat.blt k 3 then q16 else (bif Nat.blt k 4 then q25 else (bif Nat.blt k 5 then q34 else (bif Nat.blt k 6 then q43 else (bif Nat.blt k 7 then q52 else (bif Nat.blt k 8 then q66 else (bif Nat.blt k 9 then q73 else (q81)))))))))), _, rfl, rfl, rfl⟩
  refine g_conv hw ?_
  clear hw
  subst ha
  refine g_widen 9 839 (by decide) (by decide) ?_
  refine g_prog (xX5_initT M) ?_
  unfold xX5_initT
  refine g_aload_n C (pc := 86) dX5_init_86 0 rfl ?_
  refine g_get C (pc := 87) inX5_init_5 rfl 1 (by decide) (List.mem_of_getElem? (i := 6) rfl) dX5_init_87 0 rfl (.ref (h 2)) rfl ?_
  refine g_iconst C (pc := 90) dX5_init_90 cI_0 ?_
  refine g_bipush C (pc := 91) dX5_init_91 cB_40 ?_
  refine g_iast C (pc := 93) dX5_init_93 2 rfl inb_0_151 (0) tn_0 (modW cA h) (sa M 2 (up (M 2) 0 40)) rfl (fun M1 eM1 => ?_)
  refine g_aload_n C (pc := 94) dX5_init_94 0 rfl ?_
  refine g_get C (pc := 95) inX5_init_5 rfl 1 (by decide) (List.mem_of_getElem? (i := 6) rfl) dX5_init_95 0 rfl (.ref (h 2)) rfl ?_
  refine g_iconst C (pc := 98) dX5_init_98 cI_1 ?_
  refine g_bipush C (pc := 99) dX5_init_99 cB_50 ?_
  refine g_iast C (pc := 101) dX5_init_101 2 rfl inb_1_151 (1) tn_1 (modW cA h) (sa M1 2 (up (M1 2) 1 50)) rfl (fun M2 eM2 => ?_)
  refine g_aload_n C (pc := 102) dX5_init_102 0 rfl ?_
  refine g_get C (pc := 103) inX5_init_5 rfl 1 (by decide) (List.mem_of_getElem? (i := 6) rfl) dX5_init_103 0 rfl (.ref (h 2)) rfl ?_
  refine g_iconst C (pc := 106) dX5_init_106 cI_2 ?_
  refine g_bipush C (pc := 107) dX5_init_107 cB_60 ?_
  refine g_iast C (pc := 109) dX5_init_109 2 rfl inb_2_151 (2) tn_2 (modW cA h) (sa M2 2 (up (M2 2) 2 60)) rfl (fun M3 eM3 => ?_)
  refine g_aload_n C (pc := 110) dX5_init_110 0 rfl ?_
  refine g_get C (pc := 111) inX5_init_5 rfl 1 (by decide) (List.mem_of_getElem? (i := 6) rfl) dX5_init_111 0 rfl (.ref (h 2)) rfl ?_
  refine g_iconst C (pc := 114) dX5_init_114 cI_3 ?_
  refine g_iconst C (pc := 115) dX5_init_115 cI_3 ?_
  refine g_iast C (pc := 116) dX5_init_116 2 rfl inb_3_151 (3) tn_3 (modW cA h) (sa M3 2 (up (M3 2) 3 3)) rfl (fun M4 eM4 => ?_)
  refine g_aload_n C (pc := 117) dX5_init_117 0 rfl ?_
  refine g_get C (pc := 118) inX5_init_5 rfl 1 (by decide) (List.mem_of_getElem? (i := 6) rfl) dX5_init_118 0 rfl (.ref (h 2)) rfl ?_
  refine g_bipush C (pc := 121) dX5_init_121 cB_6 ?_
  refine g_iconst C (pc := 123) dX5_init_123 cI_1 ?_
  refine g_iast C (pc := 124) dX5_init_124 2 rfl inb_6_151 (6) tn_6 (modW cA h) (sa M4 2 (up (M4 2) 6 1)) rfl (fun M5 eM5 => ?_)
  refine g_aload_n C (pc := 125) dX5_init_125 0 rfl ?_
  refine g_get C (pc := 126) inX5_init_5 rfl 1 (by decide) (List.mem_of_getElem? (i := 6) rfl) dX5_init_126 0 rfl (.ref (h 2)) rfl ?_
  refine g_bipush C (pc := 129) dX5_init_129 cB_8 ?_
  refine g_bipush C (pc := 131) dX5_init_131 cB_50 ?_
  refine g_iast C (pc := 133) dX5_init_133 2 rfl inb_8_151 (8) tn_8 (modW cA h) (sa M5 2 (up (M5 2) 8 50)) rfl (fun M6 eM6 => ?_)
  refine g_aload_n C (pc := 134) dX5_init_134 0 rfl ?_
  refine g_get C (pc := 135) inX5_init_5 rfl 1 (by decide) (List.mem_of_getElem? (i := 6) rfl) dX5_init_135 0 rfl (.ref (h 2)) rfl ?_
  refine g_bipush C (pc := 138) dX5_init_138 cB_9 ?_
  refine g_iconst C (pc := 140) dX5_init_140 cI_1 ?_
  refine g_iast C (pc := 141) dX5_init_141 2 rfl inb_9_151 (9) tn_9 (modW cA h) (sa M6 2 (up (M6 2) 9 1)) rfl (fun M7 eM7 => ?_)
  refine g_aload_n C (pc := 142) dX5_init_142 0 rfl ?_
  refine g_get C (pc := 143) inX5_init_5 rfl 1 (by decide) (List.mem_of_getElem? (i := 6) rfl) dX5_init_143 0 rfl (.ref (h 2)) rfl ?_
  refine g_bipush C (pc := 146) dX5_init_146 cB_11 ?_
  refine g_sipush C (pc := 148) dX5_init_148 cS_200 ?_
  refine g_iast C (pc := 151) dX5_init_151 2 rfl inb_11_151 (11) tn_11 (modW cA h) (sa M7 2 (up (M7 2) 11 200)) rfl (fun M8 eM8 => ?_)
  refine g_aload_n C (pc := 152) dX5_init_152 0 rfl ?_
  refine g_get C (pc := 153) inX5_init_5 rfl 1 (by decide) (List.mem_of_getElem? (i := 6) rfl) dX5_init_153 0 rfl (.ref (h 2)) rfl ?_
  refine g_bipush C (pc := 156) dX5_init_156 cB_14 ?_
  refine g_bipush C (pc := 158) dX5_init_158 cB_10 ?_
  refine g_iast C (pc := 160) dX5_init_160 2 rfl inb_14_151 (14) tn_14 (modW cA h) (sa M8 2 (up (M8 2) 14 10)) rfl (fun M9 eM9 => ?_)
  refine g_aload_n C (pc := 161) dX5_init_161 0 rfl ?_
  refine g_get C (pc := 162) inX5_init_5 rfl 1 (by decide) (List.mem_of_getElem? (i := 6) rfl) dX5_init_162 0 rfl (.ref (h 2)) rfl ?_
  refine g_bipush C (pc := 165) dX5_init_165 cB_15 ?_
  refine g_sipush C (pc := 167) dX5_init_167 cS_500 ?_
  refine g_iast C (pc := 170) dX5_init_170 2 rfl inb_15_151 (15) tn_15 (modW cA h) (sa M9 2 (up (M9 2) 15 500)) rfl (fun M10 eM10 => ?_)
  refine g_aload_n C (pc := 171) dX5_init_171 0 rfl ?_
  refine g_get C (pc := 172) inX5_init_5 rfl 1 (by decide) (List.mem_of_getElem? (i := 6) rfl) dX5_init_172 0 rfl (.ref (h 2)) rfl ?_
  refine g_bipush C (pc := 175) dX5_init_175 cB_16 ?_
  refine g_sipush C (pc := 177) dX5_init_177 cS_200 ?_
  refine g_iast C (pc := 180) dX5_init_180 2 rfl inb_16_151 (16) tn_16 (modW cA h) (sa M10 2 (up (M10 2) 16 200)) rfl (fun M11 eM11 => ?_)
  refine g_aload_n C (pc := 181) dX5_init_181 0 rfl ?_
  refine g_get C (pc := 182) inX5_init_5 rfl 1 (by decide) (List.mem_of_getElem? (i := 6) rfl) dX5_init_182 0 rfl (.ref (h 2)) rfl ?_
  refine g_bipush C (pc := 185) dX5_init_185 cB_17 ?_
  refine g_sipush C (pc := 187) dX5_init_187 cS_200 ?_
  refine g_iast C (pc := 190) dX5_init_190 2 rfl inb_17_151 (17) tn_17 (modW cA h) (sa M11 2 (up (M11 2) 17 200)) rfl (fun M12 eM12 => ?_)
  exact r_inT (v := (h, M12)) C rfl dX5_init_191 (fun q => ⟨rfl, (q.trans (by rw [hM]; rfl))⟩)
