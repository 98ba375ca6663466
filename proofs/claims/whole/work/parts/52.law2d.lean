set_option maxHeartbeats 4000000 in
theorem law_c30 {p : Program} {l : Launch} {e : Env} {s : State} {m : MethodId} {b : Nat} {below : List Frame} {meth : Method} {c : Code} {D : va_G} {cA : ClassId} {T : Nat × Nat × Nat} {A : Nat → Prop} {Q : State → Prop} {Ln : Nat} {xs : Nat → Int32} {h g : Nat → Nat} {X R : St} {i : Int32} {TT : Nat} (C : Cx p s m #[.ref b] meth c D cA T A cL_law 4 RL wsL_law ret) (hX0 : va_X b Ln xs s s.heap) (hbl : b < s.heap.size) (hbA : ¬ A b) (h1 : vp_in (i + 1) Ln) (h2 : vp_in (i + 2) Ln) (h3 : vp_in (i + 3) Ln) (h4 : vp_in (i + 4) Ln) (hr : REL TT X R) (hzX : Zmain X) (hzR : Zmod R) (hT : TT ≤ 1000000) (K : ∀ X2 R2 : St, REL (TT + 3000) X2 R2 → Zmain X2 → Zmod R2 → G p l e room_1 s m #[.ref b] below meth c 66 1618 D A Q 4 () () (mainW cA h X2 ++ modW cA g R2) 1157 [(3, .int i), (2, .ref (g 0)), (1, .ref (h 0)), (0, .ref b)] []) : G p l e room_1 s m #[.ref b] below meth c 66 1618 D A Q 4 () () (mainW cA h X ++ modW cA g R) 956 [(3, .int i), (2, .ref (g 0)), (1, .ref (h 0)), (0, .ref b)] [] := by
  have hm := mh_z hzX
  refine g_aload_n C (pc := 956) dL_law_956 2 rfl ?_
  refine g_aload_n C (pc := 957) dL_law_957 3 rfl ?_
  refine g_iload_n C (pc := 958) dL_law_958 0 rfl ?_
  refine g_iconst C (pc := 959) dL_law_959 cI_1 ?_
  refine g_iadd C (pc := 960) dL_law_960 ?_
  refine g_sld C (pc := 961) hX0 hbl hbA h1 dL_law_961 ?_
  refine g_aload_n C (pc := 962) dL_law_962 3 rfl ?_
  refine g_iload_n C (pc := 963) dL_law_963 0 rfl ?_
  refine g_iconst C (pc := 964) dL_law_964 cI_2 ?_
  refine g_iadd C (pc := 965) dL_law_965 ?_
  refine g_sld C (pc := 966) hX0 hbl hbA h2 dL_law_966 ?_
  refine g_ev (t2 := nm (xX4_driest X (xs (i + 1).toNatClampNeg) (xs (i + 2).toNatClampNeg)) (fun _ => ())) rfl ?_
  refine g_Vei C (pc := 967) (As := [.int (xs (i + 1).toNatClampNeg), .int (xs (i + 2).toNatClampNeg)]) (kX4_driest l D cA T h X (xs (i + 1).toNatClampNeg) (xs (i + 2).toNatClampNeg) hzX) (v_law_main cA h g X R) gL_law_X4_driest rfl ⟨rfl, rfl⟩ ⟨Nat.le_of_ble_eq_true rfl, Nat.le_of_ble_eq_true rfl⟩ ⟨Nat.le_of_ble_eq_true rfl, Nat.le_of_ble_eq_true rfl⟩ rfl (Nat.le_of_ble_eq_true rfl) hdL_X4_driest 0 rfl rfl rfl dL_law_967 (fun z ez hzz => ?_)
  refine g_ev (t2 := ()) rfl ?_
  refine g_conv (ws2 := mainW cA h z.2 ++ modW cA g R) rfl ?_
  refine g_aload_n C (pc := 970) dL_law_970 1 rfl ?_
  refine g_aload_n C (pc := 971) dL_law_971 3 rfl ?_
  refine g_iload_n C (pc := 972) dL_law_972 0 rfl ?_
  refine g_iconst C (pc := 973) dL_law_973 cI_1 ?_
  refine g_iadd C (pc := 974) dL_law_974 ?_
  refine g_sld C (pc := 975) hX0 hbl hbA h1 dL_law_975 ?_
  refine g_aload_n C (pc := 976) dL_law_976 3 rfl ?_
  refine g_iload_n C (pc := 977) dL_law_977 0 rfl ?_
  refine g_iconst C (pc := 978) dL_law_978 cI_2 ?_
  refine g_iadd C (pc := 979) dL_law_979 ?_
  refine g_sld C (pc := 980) hX0 hbl hbA h2 dL_law_980 ?_
  refine g_ev (t2 := nm (xX5_driest R (xs (i + 1).toNatClampNeg) (xs (i + 2).toNatClampNeg)) (fun _ => ())) rfl ?_
  refine g_Vei C (pc := 981) (As := [.int (xs (i + 1).toNatClampNeg), .int (xs (i + 2).toNatClampNeg)]) (kX5_driest l D cA T g R (xs (i + 1).toNatClampNeg) (xs (i + 2).toNatClampNeg) hzR) (v_law_mod cA h g z.2 R) gL_law_X5_driest rfl ⟨rfl, rfl⟩ ⟨Nat.le_of_ble_eq_true rfl, Nat.le_of_ble_eq_true rfl⟩ ⟨Nat.le_of_ble_eq_true rfl, Nat.le_of_ble_eq_true rfl⟩ rfl (Nat.le_of_ble_eq_true rfl) hdL_X5_driest 0 rfl rfl rfl dL_law_981 (fun y ey hzy => ?_)
  refine g_ev (t2 := ()) rfl ?_
  refine g_conv (ws2 := mainW cA h z.2 ++ modW cA g y.2) rfl ?_
  have o := C_driest hr hm hzR ez ey
  refine g_icmp_eq0 C (pc := 984) 1157 dL_law_984 (by decide) (fun hc => ?_) (fun hc => absurd o.1 hc)
  exact K z.2 y.2 o.2 hzz hzy
set_option maxHeartbeats 4000000 in
theorem law_c31 {p : Program} {l : Launch} {e : Env} {s : State} {m : MethodId} {b : Nat} {below : List Frame} {meth : Method} {c : Code} {D : va_G} {cA : ClassId} {T : Nat × Nat × Nat} {A : Nat → Prop} {Q : State → Prop} {Ln : Nat} {xs : Nat → Int32} {h g : Nat → Nat} {X R : St} {i : Int32} {TT : Nat} (C : Cx p s m #[.ref b] meth c D cA T A cL_law 4 RL wsL_law ret) (hX0 : va_X b Ln xs s s.heap) (hbl : b < s.heap.size) (hbA : ¬ A b) (h1 : vp_in (i + 1) Ln) (h2 : vp_in (i + 2) Ln) (h3 : vp_in (i + 3) Ln) (h4 : vp_in (i + 4) Ln) (hr : REL TT X R) (hzX : Zmain X) (hzR : Zmod R) (hT : TT ≤ 1000000) (K : ∀ X2 R2 : St, REL (TT + 3000) X2 R2 → Zmain X2 → Zmod R2 → G p l e room_1 s m #[.ref b] below meth c 66 1618 D A Q 4 () () (mainW cA h X2 ++ modW cA g R2) 1157 [(3, .int i), (2, .ref (g 0)), (1, .ref (h 0)), (0, .ref b)] []) : G p l e room_1 s m #[.ref b] below meth c 66 1618 D A Q 4 () () (mainW cA h X ++ modW cA g R) 989 [(3, .int i), (2, .ref (g 0)), (1, .ref (h 0)), (0, .ref b)] [] := by
  have hm := mh_z hzX
  refine g_aload_n C (pc := 989) dL_law_989 2 rfl ?_
  refine g_aload_n C (pc := 990) dL_law_990 3 rfl ?_
  refine g_iload_n C (pc := 991) dL_law_991 0 rfl ?_
  refine g_iconst C (pc := 992) dL_law_992 cI_1 ?_
  refine g_iadd C (pc := 993) dL_law_993 ?_
  refine g_sld C (pc := 994) hX0 hbl hbA h1 dL_law_994 ?_
  refine g_aload_n C (pc := 995) dL_law_995 3 rfl ?_
  refine g_iload_n C (pc := 996) dL_law_996 0 rfl ?_
  refine g_iconst C (pc := 997) dL_law_997 cI_2 ?_
  refine g_iadd C (pc := 998) dL_law_998 ?_
  refine g_sld C (pc := 999) hX0 hbl hbA h2 dL_law_999 ?_
  refine g_ev (t2 := nm (xX4_sorts X (xs (i + 1).toNatClampNeg) (xs (i + 2).toNatClampNeg)) (fun _ => ())) rfl ?_
  refine g_Vei C (pc := 1000) (As := [.int (xs (i + 1).toNatClampNeg), .int (xs (i + 2).toNatClampNeg)]) (kX4_sorts l D cA T h X (xs (i + 1).toNatClampNeg) (xs (i + 2).toNatClampNeg) hzX) (v_law_main cA h g X R) gL_law_X4_sorts rfl ⟨rfl, rfl⟩ ⟨Nat.le_of_ble_eq_true rfl, Nat.le_of_ble_eq_true rfl⟩ ⟨Nat.le_of_ble_eq_true rfl, Nat.le_of_ble_eq_true rfl⟩ rfl (Nat.le_of_ble_eq_true rfl) hdL_X4_sorts 0 rfl rfl rfl dL_law_1000 (fun z ez hzz => ?_)
  refine g_ev (t2 := ()) rfl ?_
  refine g_conv (ws2 := mainW cA h z.2 ++ modW cA g R) rfl ?_
  refine g_aload_n C (pc := 1003) dL_law_1003 1 rfl ?_
  refine g_aload_n C (pc := 1004) dL_law_1004 3 rfl ?_
  refine g_iload_n C (pc := 1005) dL_law_1005 0 rfl ?_
  refine g_iconst C (pc := 1006) dL_law_1006 cI_1 ?_
  refine g_iadd C (pc := 1007) dL_law_1007 ?_
  refine g_sld C (pc := 1008) hX0 hbl hbA h1 dL_law_1008 ?_
  refine g_aload_n C (pc := 1009) dL_law_1009 3 rfl ?_
  refine g_iload_n C (pc := 1010) dL_law_1010 0 rfl ?_
  refine g_iconst C (pc := 1011) dL_law_1011 cI_2 ?_
  refine g_iadd C (pc := 1012) dL_law_1012 ?_
  refine g_sld C (pc := 1013) hX0 hbl hbA h2 dL_law_1013 ?_
  refine g_ev (t2 := nm (xX5_sorts R (xs (i + 1).toNatClampNeg) (xs (i + 2).toNatClampNeg)) (fun _ => ())) rfl ?_
  refine g_Vei C (pc := 1014) (As := [.int (xs (i + 1).toNatClampNeg), .int (xs (i + 2).toNatClampNeg)]) (kX5_sorts l D cA T g R (xs (i + 1).toNatClampNeg) (xs (i + 2).toNatClampNeg) hzR) (v_law_mod cA h g z.2 R) gL_law_X5_sorts rfl ⟨rfl, rfl⟩ ⟨Nat.le_of_ble_eq_true rfl, Nat.le_of_ble_eq_true rfl⟩ ⟨Nat.le_of_ble_eq_true rfl, Nat.le_of_ble_eq_true rfl⟩ rfl (Nat.le_of_ble_eq_true rfl) hdL_X5_sorts 0 rfl rfl rfl dL_law_1014 (fun y ey hzy => ?_)
  refine g_ev (t2 := ()) rfl ?_
  refine g_conv (ws2 := mainW cA h z.2 ++ modW cA g y.2) rfl ?_
  have o := C_sorts hr hm ez ey
  refine g_icmp_eq0 C (pc := 1017) 1157 dL_law_1017 (by decide) (fun hc => ?_) (fun hc => absurd o.1 hc)
  exact K z.2 y.2 o.2 hzz hzy
set_option maxHeartbeats 4000000 in
theorem law_c32 {p : Program} {l : Launch} {e : Env} {s : State} {m : MethodId} {b : Nat} {below : List Frame} {meth : Method} {c : Code} {D : va_G} {cA : ClassId} {T : Nat × Nat × Nat} {A : Nat → Prop} {Q : State → Prop} {Ln : Nat} {xs : Nat → Int32} {h g : Nat → Nat} {X R : St} {i : Int32} {TT : Nat} (C : Cx p s m #[.ref b] meth c D cA T A cL_law 4 RL wsL_law ret) (hX0 : va_X b Ln xs s s.heap) (hbl : b < s.heap.size) (hbA : ¬ A b) (h1 : vp_in (i + 1) Ln) (h2 : vp_in (i + 2) Ln) (h3 : vp_in (i + 3) Ln) (h4 : vp_in (i + 4) Ln) (hr : REL TT X R) (hzX : Zmain X) (hzR : Zmod R) (hT : TT ≤ 1000000) (K : ∀ X2 R2 : St, REL (TT + 3000) X2 R2 → Zmain X2 → Zmod R2 → G p l e room_1 s m #[.ref b] below meth c 66 1618 D A Q 4 () () (mainW cA h X2 ++ modW cA g R2) 1157 [(3, .int i), (2, .ref (g 0)), (1, .ref (h 0)), (0, .ref b)] []) : G p l e room_1 s m #[.ref b] below meth c 66 1618 D A Q 4 () () (mainW cA h X ++ modW cA g R) 1022 [(3, .int i), (2, .ref (g 0)), (1, .ref (h 0)), (0, .ref b)] [] := by
  have hm := mh_z hzX
  refine g_aload_n C (pc := 1022) dL_law_1022 2 rfl ?_
  refine g_aload_n C (pc := 1023) dL_law_1023 3 rfl ?_
  refine g_iload_n C (pc := 1024) dL_law_1024 0 rfl ?_
  refine g_iconst C (pc := 1025) dL_law_1025 cI_1 ?_
  refine g_iadd C (pc := 1026) dL_law_1026 ?_
  refine g_sld C (pc := 1027) hX0 hbl hbA h1 dL_law_1027 ?_
  refine g_aload_n C (pc := 1028) dL_law_1028 3 rfl ?_
  refine g_iload_n C (pc := 1029) dL_law_1029 0 rfl ?_
  refine g_iconst C (pc := 1030) dL_law_1030 cI_2 ?_
  refine g_iadd C (pc := 1031) dL_law_1031 ?_
  refine g_sld C (pc := 1032) hX0 hbl hbA h2 dL_law_1032 ?_
  refine g_aload_n C (pc := 1033) dL_law_1033 3 rfl ?_
  refine g_iload_n C (pc := 1034) dL_law_1034 0 rfl ?_
  refine g_iconst C (pc := 1035) dL_law_1035 cI_3 ?_
  refine g_iadd C (pc := 1036) dL_law_1036 ?_
  refine g_sld C (pc := 1037) hX0 hbl hbA h3 dL_law_1037 ?_
  refine g_aload_n C (pc := 1038) dL_law_1038 3 rfl ?_
  refine g_iload_n C (pc := 1039) dL_law_1039 0 rfl ?_
  refine g_iconst C (pc := 1040) dL_law_1040 cI_4 ?_
  refine g_iadd C (pc := 1041) dL_law_1041 ?_
  refine g_sld C (pc := 1042) hX0 hbl hbA h4 dL_law_1042 ?_
  refine g_ev (t2 := nm (xX4_odds X (xs (i + 1).toNatClampNeg) (xs (i + 2).toNatClampNeg) (xs (i + 3).toNatClampNeg) (xs (i + 4).toNatClampNeg)) (fun _ => ())) rfl ?_
  refine g_Vei C (pc := 1043) (As := [.int (xs (i + 1).toNatClampNeg), .int (xs (i + 2).toNatClampNeg), .int (xs (i + 3).toNatClampNeg), .int (xs (i + 4).toNatClampNeg)]) (kX4_odds l D cA T h X (xs (i + 1).toNatClampNeg) (xs (i + 2).toNatClampNeg) (xs (i + 3).toNatClampNeg) (xs (i + 4).toNatClampNeg) hzX) (v_law_main cA h g X R) gL_law_X4_odds rfl ⟨rfl, rfl⟩ ⟨Nat.le_of_ble_eq_true rfl, Nat.le_of_ble_eq_true rfl⟩ ⟨Nat.le_of_ble_eq_true rfl, Nat.le_of_ble_eq_true rfl⟩ rfl (Nat.le_of_ble_eq_true rfl) hdL_X4_odds 0 rfl rfl rfl dL_law_1043 (fun z ez hzz => ?_)
  refine g_ev (t2 := ()) rfl ?_
  refine g_conv (ws2 := mainW cA h z.2 ++ modW cA g R) rfl ?_
  refine g_aload_n C (pc := 1046) dL_law_1046 1 rfl ?_
  refine g_aload_n C (pc := 1047) dL_law_1047 3 rfl ?_
  refine g_iload_n C (pc := 1048) dL_law_1048 0 rfl ?_
  refine g_iconst C (pc := 1049) dL_law_1049 cI_1 ?_
  refine g_iadd C (pc := 1050) dL_law_1050 ?_
  refine g_sld C (pc := 1051) hX0 hbl hbA h1 dL_law_1051 ?_
  refine g_aload_n C (pc := 1052) dL_law_1052 3 rfl ?_
  refine g_iload_n C (pc := 1053) dL_law_1053 0 rfl ?_
  refine g_iconst C (pc := 1054) dL_law_1054 cI_2 ?_
  refine g_iadd C (pc := 1055) dL_law_1055 ?_
  refine g_sld C (pc := 1056) hX0 hbl hbA h2 dL_law_1056 ?_
  refine g_aload_n C (pc := 1057) dL_law_1057 3 rfl ?_
  refine g_iload_n C (pc := 1058) dL_law_1058 0 rfl ?_
  refine g_iconst C (pc := 1059) dL_law_1059 cI_3 ?_
  refine g_iadd C (pc := 1060) dL_law_1060 ?_
  refine g_sld C (pc := 1061) hX0 hbl hbA h3 dL_law_1061 ?_
  refine g_aload_n C (pc := 1062) dL_law_1062 3 rfl ?_
  refine g_iload_n C (pc := 1063) dL_law_1063 0 rfl ?_
  refine g_iconst C (pc := 1064) dL_law_1064 cI_4 ?_
  refine g_iadd C (pc := 1065) dL_law_1065 ?_
  refine g_sld C (pc := 1066) hX0 hbl hbA h4 dL_law_1066 ?_
  refine g_ev (t2 := nm (xX5_odds R (xs (i + 1).toNatClampNeg) (xs (i + 2).toNatClampNeg) (xs (i + 3).toNatClampNeg) (xs (i + 4).toNatClampNeg)) (fun _ => ())) rfl ?_
  refine g_Vei C (pc := 1067) (As := [.int (xs (i + 1).toNatClampNeg), .int (xs (i + 2).toNatClampNeg), .int (xs (i + 3).toNatClampNeg), .int (xs (i + 4).toNatClampNeg)]) (kX5_odds l D cA T g R (xs (i + 1).toNatClampNeg) (xs (i + 2).toNatClampNeg) (xs (i + 3).toNatClampNeg) (xs (i + 4).toNatClampNeg) hzR) (v_law_mod cA h g z.2 R) gL_law_X5_odds rfl ⟨rfl, rfl⟩ ⟨Nat.le_of_ble_eq_true rfl, Nat.le_of_ble_eq_true rfl⟩ ⟨Nat.le_of_ble_eq_true rfl, Nat.le_of_ble_eq_true rfl⟩ rfl (Nat.le_of_ble_eq_true rfl) hdL_X5_odds 0 rfl rfl rfl dL_law_1067 (fun y ey hzy => ?_)
  refine g_ev (t2 := ()) rfl ?_
  refine g_conv (ws2 := mainW cA h z.2 ++ modW cA g y.2) rfl ?_
  have o := C_odds hr hm ez ey
  refine g_icmp_eq0 C (pc := 1070) 1157 dL_law_1070 (by decide) (fun hc => ?_) (fun hc => absurd o.1 hc)
  exact K z.2 y.2 o.2 hzz hzy
set_option maxHeartbeats 4000000 in
theorem law_c33 {p : Program} {l : Launch} {e : Env} {s : State} {m : MethodId} {b : Nat} {below : List Frame} {meth : Method} {c : Code} {D : va_G} {cA : ClassId} {T : Nat × Nat × Nat} {A : Nat → Prop} {Q : State → Prop} {Ln : Nat} {xs : Nat → Int32} {h g : Nat → Nat} {X R : St} {i : Int32} {TT : Nat} (C : Cx p s m #[.ref b] meth c D cA T A cL_law 4 RL wsL_law ret) (hX0 : va_X b Ln xs s s.heap) (hbl : b < s.heap.size) (hbA : ¬ A b) (h1 : vp_in (i + 1) Ln) (h2 : vp_in (i + 2) Ln) (h3 : vp_in (i + 3) Ln) (h4 : vp_in (i + 4) Ln) (hr : REL TT X R) (hzX : Zmain X) (hzR : Zmod R) (hT : TT ≤ 1000000) (K : ∀ X2 R2 : St, REL (TT + 3000) X2 R2 → Zmain X2 → Zmod R2 → G p l e room_1 s m #[.ref b] below meth c 66 1618 D A Q 4 () () (mainW cA h X2 ++ modW cA g R2) 1157 [(3, .int i), (2, .ref (g 0)), (1, .ref (h 0)), (0, .ref b)] []) : G p l e room_1 s m #[.ref b] below meth c 66 1618 D A Q 4 () () (mainW cA h X ++ modW cA g R) 1075 [(3, .int i), (2, .ref (g 0)), (1, .ref (h 0)), (0, .ref b)] [] := by
  have hm := mh_z hzX
  refine g_aload_n C (pc := 1075) dL_law_1075 2 rfl ?_
  refine g_aload_n C (pc := 1076) dL_law_1076 3 rfl ?_
  refine g_iload_n C (pc := 1077) dL_law_1077 0 rfl ?_
  refine g_iconst C (pc := 1078) dL_law_1078 cI_1 ?_
  refine g_iadd C (pc := 1079) dL_law_1079 ?_
  refine g_sld C (pc := 1080) hX0 hbl hbA h1 dL_law_1080 ?_
  refine g_aload_n C (pc := 1081) dL_law_1081 3 rfl ?_
  refine g_iload_n C (pc := 1082) dL_law_1082 0 rfl ?_
  refine g_iconst C (pc := 1083) dL_law_1083 cI_2 ?_
  refine g_iadd C (pc := 1084) dL_law_1084 ?_
  refine g_sld C (pc := 1085) hX0 hbl hbA h2 dL_law_1085 ?_
  refine g_ev (t2 := nm (xX4_drafts X (xs (i + 1).toNatClampNeg) (xs (i + 2).toNatClampNeg)) (fun _ => ())) rfl ?_
  refine g_Vei C (pc := 1086) (As := [.int (xs (i + 1).toNatClampNeg), .int (xs (i + 2).toNatClampNeg)]) (kX4_drafts l D cA T h X (xs (i + 1).toNatClampNeg) (xs (i + 2).toNatClampNeg) hzX) (v_law_main cA h g X R) gL_law_X4_drafts rfl ⟨rfl, rfl⟩ ⟨Nat.le_of_ble_eq_true rfl, Nat.le_of_ble_eq_true rfl⟩ ⟨Nat.le_of_ble_eq_true rfl, Nat.le_of_ble_eq_true rfl⟩ rfl (Nat.le_of_ble_eq_true rfl) hdL_X4_drafts 0 rfl rfl rfl dL_law_1086 (fun z ez hzz => ?_)
  refine g_ev (t2 := ()) rfl ?_
  refine g_conv (ws2 := mainW cA h z.2 ++ modW cA g R) rfl ?_
  refine g_aload_n C (pc := 1089) dL_law_1089 1 rfl ?_
  refine g_aload_n C (pc := 1090) dL_law_1090 3 rfl ?_
  refine g_iload_n C (pc := 1091) dL_law_1091 0 rfl ?_
  refine g_iconst C (pc := 1092) dL_law_1092 cI_1 ?_
  refine g_iadd C (pc := 1093) dL_law_1093 ?_
  refine g_sld C (pc := 1094) hX0 hbl hbA h1 dL_law_1094 ?_
  refine g_aload_n C (pc := 1095) dL_law_1095 3 rfl ?_
  refine g_iload_n C (pc := 1096) dL_law_1096 0 rfl ?_
  refine g_iconst C (pc := 1097) dL_law_1097 cI_2 ?_
  refine g_iadd C (pc := 1098) dL_law_1098 ?_
  refine g_sld C (pc := 1099) hX0 hbl hbA h2 dL_law_1099 ?_
  refine g_ev (t2 := nm (xX5_drafts R (xs (i + 1).toNatClampNeg) (xs (i + 2).toNatClampNeg)) (fun _ => ())) rfl ?_
  refine g_Vei C (pc := 1100) (As := [.int (xs (i + 1).toNatClampNeg), .int (xs (i + 2).toNatClampNeg)]) (kX5_drafts l D cA T g R (xs (i + 1).toNatClampNeg) (xs (i + 2).toNatClampNeg) hzR) (v_law_mod cA h g z.2 R) gL_law_X5_drafts rfl ⟨rfl, rfl⟩ ⟨Nat.le_of_ble_eq_true rfl, Nat.le_of_ble_eq_true rfl⟩ ⟨Nat.le_of_ble_eq_true rfl, Nat.le_of_ble_eq_true rfl⟩ rfl (Nat.le_of_ble_eq_true rfl) hdL_X5_drafts 0 rfl rfl rfl dL_law_1100 (fun y ey hzy => ?_)
  refine g_ev (t2 := ()) rfl ?_
  refine g_conv (ws2 := mainW cA h z.2 ++ modW cA g y.2) rfl ?_
  have o := C_drafts hr ez ey
  refine g_icmp_eq0 C (pc := 1103) 1157 dL_law_1103 (by decide) (fun hc => ?_) (fun hc => absurd o.1 hc)
  exact K z.2 y.2 o.2 hzz hzy
set_option maxHeartbeats 4000000 in
theorem law_c34 {p : Program} {l : Launch} {e : Env} {s : State} {m : MethodId} {b : Nat} {below : List Frame} {meth : Method} {c : Code} {D : va_G} {cA : ClassId} {T : Nat × Nat × Nat} {A : Nat → Prop} {Q : State → Prop} {Ln : Nat} {xs : Nat → Int32} {h g : Nat → Nat} {X R : St} {i : Int32} {TT : Nat} (C : Cx p s m #[.ref b] meth c D cA T A cL_law 4 RL wsL_law ret) (hX0 : va_X b Ln xs s s.heap) (hbl : b < s.heap.size) (hbA : ¬ A b) (h1 : vp_in (i + 1) Ln) (h2 : vp_in (i + 2) Ln) (h3 : vp_in (i + 3) Ln) (h4 : vp_in (i + 4) Ln) (hr : REL TT X R) (hzX : Zmain X) (hzR : Zmod R) (hT : TT ≤ 1000000) (K : ∀ X2 R2 : St, REL (TT + 3000) X2 R2 → Zmain X2 → Zmod R2 → G p l e room_1 s m #[.ref b] below meth c 66 1618 D A Q 4 () () (mainW cA h X2 ++ modW cA g R2) 1157 [(3, .int i), (2, .ref (g 0)), (1, .ref (h 0)), (0, .ref b)] []) : G p l e room_1 s m #[.ref b] below meth c 66 1618 D A Q 4 () () (mainW cA h X ++ modW cA g R) 1108 [(3, .int i), (2, .ref (g 0)), (1, .ref (h 0)), (0, .ref b)] [] := by
  have hm := mh_z hzX
  refine g_aload_n C (pc := 1108) dL_law_1108 2 rfl ?_
  refine g_ev (t2 := nm (xX4_image X) (fun _ => ())) rfl ?_
  refine g_Vei C (pc := 1109) (As := []) (kX4_image l D cA T h X hzX) (v_law_main cA h g X R) gL_law_X4_image rfl ⟨rfl, rfl⟩ ⟨Nat.le_of_ble_eq_true rfl, Nat.le_of_ble_eq_true rfl⟩ ⟨Nat.le_of_ble_eq_true rfl, Nat.le_of_ble_eq_true rfl⟩ rfl (Nat.le_of_ble_eq_true rfl) hdL_X4_image 0 rfl rfl rfl dL_law_1109 (fun z ez hzz => ?_)
  refine g_ev (t2 := ()) rfl ?_
  refine g_conv (ws2 := mainW cA h z.2 ++ modW cA g R) rfl ?_
  refine g_aload_n C (pc := 1112) dL_law_1112 1 rfl ?_
  refine g_ev (t2 := nm (xX5_image R) (fun _ => ())) rfl ?_
  refine g_Vei C (pc := 1113) (As := []) (kX5_image l D cA T g R hzR) (v_law_mod cA h g z.2 R) gL_law_X5_image rfl ⟨rfl, rfl⟩ ⟨Nat.le_of_ble_eq_true rfl, Nat.le_of_ble_eq_true rfl⟩ ⟨Nat.le_of_ble_eq_true rfl, Nat.le_of_ble_eq_true rfl⟩ rfl (Nat.le_of_ble_eq_true rfl) hdL_X5_image 0 rfl rfl rfl dL_law_1113 (fun y ey hzy => ?_)
  refine g_ev (t2 := ()) rfl ?_
  refine g_conv (ws2 := mainW cA h z.2 ++ modW cA g y.2) rfl ?_
  have o := C_image hr ez ey
  refine g_icmp_eq0 C (pc := 1116) 1157 dL_law_1116 (by decide) (fun hc => ?_) (fun hc => absurd o.1 hc)
  exact K z.2 y.2 o.2 hzz hzy
set_option maxHeartbeats 4000000 in
theorem law_c35 {p : Program} {l : Launch} {e : Env} {s : State} {m : MethodId} {b : Nat} {below : List Frame} {meth : Method} {c : Code} {D : va_G} {cA : ClassId} {T : Nat × Nat × Nat} {A : Nat → Prop} {Q : State → Prop} {Ln : Nat} {xs : Nat → Int32} {h g : Nat → Nat} {X R : St} {i : Int32} {TT : Nat} (C : Cx p s m #[.ref b] meth c D cA T A cL_law 4 RL wsL_law ret) (hX0 : va_X b Ln xs s s.heap) (hbl : b < s.heap.size) (hbA : ¬ A b) (h1 : vp_in (i + 1) Ln) (h2 : vp_in (i + 2) Ln) (h3 : vp_in (i + 3) Ln) (h4 : vp_in (i + 4) Ln) (hr : REL TT X R) (hzX : Zmain X) (hzR : Zmod R) (hT : TT ≤ 1000000) (K : ∀ X2 R2 : St, REL (TT + 3000) X2 R2 → Zmain X2 → Zmod R2 → G p l e room_1 s m #[.ref b] below meth c 66 1618 D A Q 4 () () (mainW cA h X2 ++ modW cA g R2) 1157 [(3, .int i), (2, .ref (g 0)), (1, .ref (h 0)), (0, .ref b)] []) : G p l e room_1 s m #[.ref b] below meth c 66 1618 D A Q 4 () () (mainW cA h X ++ modW cA g R) 1121 [(3, .int i), (2, .ref (g 0)), (1, .ref (h 0)), (0, .ref b)] [] := by
  have hm := mh_z hzX
  refine g_aload_n C (pc := 1121) dL_law_1121 2 rfl ?_
  refine g_ev (t2 := nm (xX4_on X) (fun _ => ())) rfl ?_
  refine g_Vei C (pc := 1122) (As := []) (kX4_on l D cA T h X hzX) (v_law_main cA h g X R) gL_law_X4_on rfl ⟨rfl, rfl⟩ ⟨Nat.le_of_ble_eq_true rfl, Nat.le_of_ble_eq_true rfl⟩ ⟨Nat.le_of_ble_eq_true rfl, Nat.le_of_ble_eq_true rfl⟩ rfl (Nat.le_of_ble_eq_true rfl) hdL_X4_on 0 rfl rfl rfl dL_law_1122 (fun z ez hzz => ?_)
  refine g_ev (t2 := ()) rfl ?_
  refine g_conv (ws2 := mainW cA h z.2 ++ modW cA g R) rfl ?_
  refine g_aload_n C (pc := 1125) dL_law_1125 1 rfl ?_
  refine g_ev (t2 := nm (xX5_on R) (fun _ => ())) rfl ?_
  refine g_Vei C (pc := 1126) (As := []) (kX5_on l D cA T g R hzR) (v_law_mod cA h g z.2 R) gL_law_X5_on rfl ⟨rfl, rfl⟩ ⟨Nat.le_of_ble_eq_true rfl, Nat.le_of_ble_eq_true rfl⟩ ⟨Nat.le_of_ble_eq_true rfl, Nat.le_of_ble_eq_true rfl⟩ rfl (Nat.le_of_ble_eq_true rfl) hdL_X5_on 0 rfl rfl rfl dL_law_1126 (fun y ey hzy => ?_)
  refine g_ev (t2 := ()) rfl ?_
  refine g_conv (ws2 := mainW cA h z.2 ++ modW cA g y.2) rfl ?_
  have o := C_on hr ez ey
  refine g_icmp_eq0 C (pc := 1129) 1157 dL_law_1129 (by decide) (fun hc => ?_) (fun hc => absurd o.1 hc)
  exact K z.2 y.2 o.2 hzz hzy
set_option maxHeartbeats 4000000 in
theorem law_c36 {p : Program} {l : Launch} {e : Env} {s : State} {m : MethodId} {b : Nat} {below : List Frame} {meth : Method} {c : Code} {D : va_G} {cA : ClassId} {T : Nat × Nat × Nat} {A : Nat → Prop} {Q : State → Prop} {Ln : Nat} {xs : Nat → Int32} {h g : Nat → Nat} {X R : St} {i : Int32} {TT : Nat} (C : Cx p s m #[.ref b] meth c D cA T A cL_law 4 RL wsL_law ret) (hX0 : va_X b Ln xs s s.heap) (hbl : b < s.heap.size) (hbA : ¬ A b) (h1 : vp_in (i + 1) Ln) (h2 : vp_in (i + 2) Ln) (h3 : vp_in (i + 3) Ln) (h4 : vp_in (i + 4) Ln) (hr : REL TT X R) (hzX : Zmain X) (hzR : Zmod R) (hT : TT ≤ 1000000) (K : ∀ X2 R2 : St, REL (TT + 3000) X2 R2 → Zmain X2 → Zmod R2 → G p l e room_1 s m #[.ref b] below meth c 66 1618 D A Q 4 () () (mainW cA h X2 ++ modW cA g R2) 1157 [(3, .int i), (2, .ref (g 0)), (1, .ref (h 0)), (0, .ref b)] []) : G p l e room_1 s m #[.ref b] below meth c 66 1618 D A Q 4 () () (mainW cA h X ++ modW cA g R) 1134 [(3, .int i), (2, .ref (g 0)), (1, .ref (h 0)), (0, .ref b)] [] := by
  have hm := mh_z hzX
  refine g_aload_n C (pc := 1134) dL_law_1134 2 rfl ?_
  refine g_aload_n C (pc := 1135) dL_law_1135 3 rfl ?_
  refine g_iload_n C (pc := 1136) dL_law_1136 0 rfl ?_
  refine g_iconst C (pc := 1137) dL_law_1137 cI_1 ?_
  refine g_iadd C (pc := 1138) dL_law_1138 ?_
  refine g_sld C (pc := 1139) hX0 hbl hbA h1 dL_law_1139 ?_
  refine g_ev (t2 := nm (xX4_count X (xs (i + 1).toNatClampNeg)) (fun _ => ())) rfl ?_
  refine g_Vei C (pc := 1140) (As := [.int (xs (i + 1).toNatClampNeg)]) (kX4_count l D cA T h X (xs (i + 1).toNatClampNeg) hzX) (v_law_main cA h g X R) gL_law_X4_count rfl ⟨rfl, rfl⟩ ⟨Nat.le_of_ble_eq_true rfl, Nat.le_of_ble_eq_true rfl⟩ ⟨Nat.le_of_ble_eq_true rfl, Nat.le_of_ble_eq_true rfl⟩ rfl (Nat.le_of_ble_eq_true rfl) hdL_X4_count 0 rfl rfl rfl dL_law_1140 (fun z ez hzz => ?_)
  refine g_ev (t2 := ()) rfl ?_
  refine g_conv (ws2 := mainW cA h z.2 ++ modW cA g R) rfl ?_
  refine g_aload_n C (pc := 1143) dL_law_1143 1 rfl ?_
  refine g_aload_n C (pc := 1144) dL_law_1144 3 rfl ?_
  refine g_iload_n C (pc := 1145) dL_law_1145 0 rfl ?_
  refine g_iconst C (pc := 1146) dL_law_1146 cI_1 ?_
  refine g_iadd C (pc := 1147) dL_law_1147 ?_
  refine g_sld C (pc := 1148) hX0 hbl hbA h1 dL_law_1148 ?_
  refine g_ev (t2 := nm (xX5_count R (xs (i + 1).toNatClampNeg)) (fun _ => ())) rfl ?_
  refine g_Vei C (pc := 1149) (As := [.int (xs (i + 1).toNatClampNeg)]) (kX5_count l D cA T g R (xs (i + 1).toNatClampNeg) hzR) (v_law_mod cA h g z.2 R) gL_law_X5_count rfl ⟨rfl, rfl⟩ ⟨Nat.le_of_ble_eq_true rfl, Nat.le_of_ble_eq_true rfl⟩ ⟨Nat.le_of_ble_eq_true rfl, Nat.le_of_ble_eq_true rfl⟩ rfl (Nat.le_of_ble_eq_true rfl) hdL_X5_count 0 rfl rfl rfl dL_law_1149 (fun y ey hzy => ?_)
  refine g_ev (t2 := ()) rfl ?_
  refine g_conv (ws2 := mainW cA h z.2 ++ modW cA g y.2) rfl ?_
  have o := C_count hr ez ey
  refine g_icmp_eq0 C (pc := 1152) 1157 dL_law_1152 (by decide) (fun hc => ?_) (fun hc => absurd o.1 hc)
  exact K z.2 y.2 o.2 hzz hzy
