set_option maxHeartbeats 4000000 in
theorem law_c0 {p : Program} {l : Launch} {e : Env} {s : State} {m : MethodId} {b : Nat} {below : List Frame} {meth : Method} {c : Code} {D : va_G} {cA : ClassId} {T : Nat × Nat × Nat} {A : Nat → Prop} {Q : State → Prop} {Ln : Nat} {xs : Nat → Int32} {h g : Nat → Nat} {X R : St} {i : Int32} {TT : Nat} (C : Cx p s m #[.ref b] meth c D cA T A cL_law 4 RL wsL_law ret) (hX0 : va_X b Ln xs s s.heap) (hbl : b < s.heap.size) (hbA : ¬ A b) (h1 : vp_in (i + 1) Ln) (h2 : vp_in (i + 2) Ln) (h3 : vp_in (i + 3) Ln) (h4 : vp_in (i + 4) Ln) (hr : REL TT X R) (hzX : Zmain X) (hzR : Zmod R) (hT : TT ≤ 1000000) (K : ∀ X2 R2 : St, REL (TT + 3000) X2 R2 → Zmain X2 → Zmod R2 → G p l e room_1 s m #[.ref b] below meth c 66 1618 D A Q 4 () () (mainW cA h X2 ++ modW cA g R2) 1157 [(3, .int i), (2, .ref (g 0)), (1, .ref (h 0)), (0, .ref b)] []) : G p l e room_1 s m #[.ref b] below meth c 66 1618 D A Q 4 () () (mainW cA h X ++ modW cA g R) 196 [(3, .int i), (2, .ref (g 0)), (1, .ref (h 0)), (0, .ref b)] [] := by
  have hm := mh_z hzX
  refine g_aload_n C (pc := 196) dL_law_196 2 rfl ?_
  refine g_aload_n C (pc := 197) dL_law_197 3 rfl ?_
  refine g_iload_n C (pc := 198) dL_law_198 0 rfl ?_
  refine g_iconst C (pc := 199) dL_law_199 cI_1 ?_
  refine g_iadd C (pc := 200) dL_law_200 ?_
  refine g_sld C (pc := 201) hX0 hbl hbA h1 dL_law_201 ?_
  refine g_aload_n C (pc := 202) dL_law_202 3 rfl ?_
  refine g_iload_n C (pc := 203) dL_law_203 0 rfl ?_
  refine g_iconst C (pc := 204) dL_law_204 cI_2 ?_
  refine g_iadd C (pc := 205) dL_law_205 ?_
  refine g_sld C (pc := 206) hX0 hbl hbA h2 dL_law_206 ?_
  refine g_i2l C (pc := 207) dL_law_207 rfl ?_
  refine g_bipush C (pc := 208) dL_law_208 c_32 ?_
  refine g_lshl C (pc := 210) dL_law_210 rfl ?_
  refine g_aload_n C (pc := 211) dL_law_211 3 rfl ?_
  refine g_iload_n C (pc := 212) dL_law_212 0 rfl ?_
  refine g_iconst C (pc := 213) dL_law_213 cI_3 ?_
  refine g_iadd C (pc := 214) dL_law_214 ?_
  refine g_sld C (pc := 215) hX0 hbl hbA h3 dL_law_215 ?_
  refine g_i2l C (pc := 216) dL_law_216 rfl ?_
  refine g_ldc2 C (pc := 217) dL_law_217 kL_long ?_
  refine g_land C (pc := 220) dL_law_220 ?_
  refine g_lor C (pc := 221) dL_law_221 ?_
  refine g_ev (t2 := nm (xX4_feed X (xs (i + 1).toNatClampNeg) (((xs (i + 2).toNatClampNeg).toInt64 <<< ((32 : Int32).toInt64 &&& 63)) ||| ((xs (i + 3).toNatClampNeg).toInt64 &&& 4294967295))) (fun _ => ())) rfl ?_
  refine g_Vei C (pc := 222) (As := [.int (xs (i + 1).toNatClampNeg), .long (((xs (i + 2).toNatClampNeg).toInt64 <<< ((32 : Int32).toInt64 &&& 63)) ||| ((xs (i + 3).toNatClampNeg).toInt64 &&& 4294967295))]) (kX4_feed l D cA T h X (xs (i + 1).toNatClampNeg) (((xs (i + 2).toNatClampNeg).toInt64 <<< ((32 : Int32).toInt64 &&& 63)) ||| ((xs (i + 3).toNatClampNeg).toInt64 &&& 4294967295)) hzX) (v_law_main cA h g X R) gL_law_X4_feed rfl ⟨rfl, rfl⟩ ⟨Nat.le_of_ble_eq_true rfl, Nat.le_of_ble_eq_true rfl⟩ ⟨Nat.le_of_ble_eq_true rfl, Nat.le_of_ble_eq_true rfl⟩ rfl (Nat.le_of_ble_eq_true rfl) hdL_X4_feed 0 rfl rfl rfl dL_law_222 (fun z ez hzz => ?_)
  refine g_ev (t2 := ()) rfl ?_
  refine g_conv (ws2 := mainW cA h z.2 ++ modW cA g R) rfl ?_
  refine g_aload_n C (pc := 225) dL_law_225 1 rfl ?_
  refine g_aload_n C (pc := 226) dL_law_226 3 rfl ?_
  refine g_iload_n C (pc := 227) dL_law_227 0 rfl ?_
  refine g_iconst C (pc := 228) dL_law_228 cI_1 ?_
  refine g_iadd C (pc := 229) dL_law_229 ?_
  refine g_sld C (pc := 230) hX0 hbl hbA h1 dL_law_230 ?_
  refine g_aload_n C (pc := 231) dL_law_231 3 rfl ?_
  refine g_iload_n C (pc := 232) dL_law_232 0 rfl ?_
  refine g_iconst C (pc := 233) dL_law_233 cI_2 ?_
  refine g_iadd C (pc := 234) dL_law_234 ?_
  refine g_sld C (pc := 235) hX0 hbl hbA h2 dL_law_235 ?_
  refine g_i2l C (pc := 236) dL_law_236 rfl ?_
  refine g_bipush C (pc := 237) dL_law_237 c_32 ?_
  refine g_lshl C (pc := 239) dL_law_239 rfl ?_
  refine g_aload_n C (pc := 240) dL_law_240 3 rfl ?_
  refine g_iload_n C (pc := 241) dL_law_241 0 rfl ?_
  refine g_iconst C (pc := 242) dL_law_242 cI_3 ?_
  refine g_iadd C (pc := 243) dL_law_243 ?_
  refine g_sld C (pc := 244) hX0 hbl hbA h3 dL_law_244 ?_
  refine g_i2l C (pc := 245) dL_law_245 rfl ?_
  refine g_ldc2 C (pc := 246) dL_law_246 kL_long ?_
  refine g_land C (pc := 249) dL_law_249 ?_
  refine g_lor C (pc := 250) dL_law_250 ?_
  refine g_ev (t2 := nm (xX5_feed R (xs (i + 1).toNatClampNeg) (((xs (i + 2).toNatClampNeg).toInt64 <<< ((32 : Int32).toInt64 &&& 63)) ||| ((xs (i + 3).toNatClampNeg).toInt64 &&& 4294967295))) (fun _ => ())) rfl ?_
  refine g_Vei C (pc := 251) (As := [.int (xs (i + 1).toNatClampNeg), .long (((xs (i + 2).toNatClampNeg).toInt64 <<< ((32 : Int32).toInt64 &&& 63)) ||| ((xs (i + 3).toNatClampNeg).toInt64 &&& 4294967295))]) (kX5_feed l D cA T g R (xs (i + 1).toNatClampNeg) (((xs (i + 2).toNatClampNeg).toInt64 <<< ((32 : Int32).toInt64 &&& 63)) ||| ((xs (i + 3).toNatClampNeg).toInt64 &&& 4294967295)) hzR) (v_law_mod cA h g z.2 R) gL_law_X5_feed rfl ⟨rfl, rfl⟩ ⟨Nat.le_of_ble_eq_true rfl, Nat.le_of_ble_eq_true rfl⟩ ⟨Nat.le_of_ble_eq_true rfl, Nat.le_of_ble_eq_true rfl⟩ rfl (Nat.le_of_ble_eq_true rfl) hdL_X5_feed 0 rfl rfl rfl dL_law_251 (fun y ey hzy => ?_)
  refine g_ev (t2 := ()) rfl ?_
  refine g_conv (ws2 := mainW cA h z.2 ++ modW cA g y.2) rfl ?_
  have o := C_feed hr hzR ez ey
  refine g_icmp_eq0 C (pc := 254) 1157 dL_law_254 (by decide) (fun hc => ?_) (fun hc => absurd o.1 hc)
  exact K z.2 y.2 o.2 hzz hzy
set_option maxHeartbeats 4000000 in
theorem law_c1 {p : Program} {l : Launch} {e : Env} {s : State} {m : MethodId} {b : Nat} {below : List Frame} {meth : Method} {c : Code} {D : va_G} {cA : ClassId} {T : Nat × Nat × Nat} {A : Nat → Prop} {Q : State → Prop} {Ln : Nat} {xs : Nat → Int32} {h g : Nat → Nat} {X R : St} {i : Int32} {TT : Nat} (C : Cx p s m #[.ref b] meth c D cA T A cL_law 4 RL wsL_law ret) (hX0 : va_X b Ln xs s s.heap) (hbl : b < s.heap.size) (hbA : ¬ A b) (h1 : vp_in (i + 1) Ln) (h2 : vp_in (i + 2) Ln) (h3 : vp_in (i + 3) Ln) (h4 : vp_in (i + 4) Ln) (hr : REL TT X R) (hzX : Zmain X) (hzR : Zmod R) (hT : TT ≤ 1000000) (K : ∀ X2 R2 : St, REL (TT + 3000) X2 R2 → Zmain X2 → Zmod R2 → G p l e room_1 s m #[.ref b] below meth c 66 1618 D A Q 4 () () (mainW cA h X2 ++ modW cA g R2) 1157 [(3, .int i), (2, .ref (g 0)), (1, .ref (h 0)), (0, .ref b)] []) : G p l e room_1 s m #[.ref b] below meth c 66 1618 D A Q 4 () () (mainW cA h X ++ modW cA g R) 259 [(3, .int i), (2, .ref (g 0)), (1, .ref (h 0)), (0, .ref b)] [] := by
  have hm := mh_z hzX
  refine g_aload_n C (pc := 259) dL_law_259 2 rfl ?_
  refine g_ev (t2 := nm (xX4_book X) (fun _ => ())) rfl ?_
  refine g_Vei C (pc := 260) (As := []) (kX4_book l D cA T h X hzX) (v_law_main cA h g X R) gL_law_X4_book rfl ⟨rfl, rfl⟩ ⟨Nat.le_of_ble_eq_true rfl, Nat.le_of_ble_eq_true rfl⟩ ⟨Nat.le_of_ble_eq_true rfl, Nat.le_of_ble_eq_true rfl⟩ rfl (Nat.le_of_ble_eq_true rfl) hdL_X4_book 0 rfl rfl rfl dL_law_260 (fun z ez hzz => ?_)
  refine g_ev (t2 := ()) rfl ?_
  refine g_conv (ws2 := mainW cA h z.2 ++ modW cA g R) rfl ?_
  refine g_aload_n C (pc := 263) dL_law_263 1 rfl ?_
  refine g_ev (t2 := nm (xX5_book R) (fun _ => ())) rfl ?_
  refine g_Vei C (pc := 264) (As := []) (kX5_book l D cA T g R hzR) (v_law_mod cA h g z.2 R) gL_law_X5_book rfl ⟨rfl, rfl⟩ ⟨Nat.le_of_ble_eq_true rfl, Nat.le_of_ble_eq_true rfl⟩ ⟨Nat.le_of_ble_eq_true rfl, Nat.le_of_ble_eq_true rfl⟩ rfl (Nat.le_of_ble_eq_true rfl) hdL_X5_book 0 rfl rfl rfl dL_law_264 (fun y ey hzy => ?_)
  refine g_ev (t2 := ()) rfl ?_
  refine g_conv (ws2 := mainW cA h z.2 ++ modW cA g y.2) rfl ?_
  have o := C_book hr hzR ez ey
  refine g_icmp_eq0 C (pc := 267) 1157 dL_law_267 (by decide) (fun hc => ?_) (fun hc => absurd o.1 hc)
  exact K z.2 y.2 o.2 hzz hzy
set_option maxHeartbeats 4000000 in
theorem law_c2 {p : Program} {l : Launch} {e : Env} {s : State} {m : MethodId} {b : Nat} {below : List Frame} {meth : Method} {c : Code} {D : va_G} {cA : ClassId} {T : Nat × Nat × Nat} {A : Nat → Prop} {Q : State → Prop} {Ln : Nat} {xs : Nat → Int32} {h g : Nat → Nat} {X R : St} {i : Int32} {TT : Nat} (C : Cx p s m #[.ref b] meth c D cA T A cL_law 4 RL wsL_law ret) (hX0 : va_X b Ln xs s s.heap) (hbl : b < s.heap.size) (hbA : ¬ A b) (h1 : vp_in (i + 1) Ln) (h2 : vp_in (i + 2) Ln) (h3 : vp_in (i + 3) Ln) (h4 : vp_in (i + 4) Ln) (hr : REL TT X R) (hzX : Zmain X) (hzR : Zmod R) (hT : TT ≤ 1000000) (K : ∀ X2 R2 : St, REL (TT + 3000) X2 R2 → Zmain X2 → Zmod R2 → G p l e room_1 s m #[.ref b] below meth c 66 1618 D A Q 4 () () (mainW cA h X2 ++ modW cA g R2) 1157 [(3, .int i), (2, .ref (g 0)), (1, .ref (h 0)), (0, .ref b)] []) : G p l e room_1 s m #[.ref b] below meth c 66 1618 D A Q 4 () () (mainW cA h X ++ modW cA g R) 272 [(3, .int i), (2, .ref (g 0)), (1, .ref (h 0)), (0, .ref b)] [] := by
  have hm := mh_z hzX
  refine g_aload_n C (pc := 272) dL_law_272 2 rfl ?_
  refine g_aload_n C (pc := 273) dL_law_273 3 rfl ?_
  refine g_iload_n C (pc := 274) dL_law_274 0 rfl ?_
  refine g_iconst C (pc := 275) dL_law_275 cI_1 ?_
  refine g_iadd C (pc := 276) dL_law_276 ?_
  refine g_sld C (pc := 277) hX0 hbl hbA h1 dL_law_277 ?_
  refine g_aload_n C (pc := 278) dL_law_278 3 rfl ?_
  refine g_iload_n C (pc := 279) dL_law_279 0 rfl ?_
  refine g_iconst C (pc := 280) dL_law_280 cI_2 ?_
  refine g_iadd C (pc := 281) dL_law_281 ?_
  refine g_sld C (pc := 282) hX0 hbl hbA h2 dL_law_282 ?_
  refine g_ev (t2 := nm (xX4_set X (xs (i + 1).toNatClampNeg) (xs (i + 2).toNatClampNeg)) (fun _ => ())) rfl ?_
  refine g_Vei C (pc := 283) (As := [.int (xs (i + 1).toNatClampNeg), .int (xs (i + 2).toNatClampNeg)]) (kX4_set l D cA T h X (xs (i + 1).toNatClampNeg) (xs (i + 2).toNatClampNeg) hzX) (v_law_main cA h g X R) gL_law_X4_set rfl ⟨rfl, rfl⟩ ⟨Nat.le_of_ble_eq_true rfl, Nat.le_of_ble_eq_true rfl⟩ ⟨Nat.le_of_ble_eq_true rfl, Nat.le_of_ble_eq_true rfl⟩ rfl (Nat.le_of_ble_eq_true rfl) hdL_X4_set 0 rfl rfl rfl dL_law_283 (fun z ez hzz => ?_)
  refine g_ev (t2 := ()) rfl ?_
  refine g_conv (ws2 := mainW cA h z.2 ++ modW cA g R) rfl ?_
  refine g_aload_n C (pc := 286) dL_law_286 1 rfl ?_
  refine g_aload_n C (pc := 287) dL_law_287 3 rfl ?_
  refine g_iload_n C (pc := 288) dL_law_288 0 rfl ?_
  refine g_iconst C (pc := 289) dL_law_289 cI_1 ?_
  refine g_iadd C (pc := 290) dL_law_290 ?_
  refine g_sld C (pc := 291) hX0 hbl hbA h1 dL_law_291 ?_
  refine g_aload_n C (pc := 292) dL_law_292 3 rfl ?_
  refine g_iload_n C (pc := 293) dL_law_293 0 rfl ?_
  refine g_iconst C (pc := 294) dL_law_294 cI_2 ?_
  refine g_iadd C (pc := 295) dL_law_295 ?_
  refine g_sld C (pc := 296) hX0 hbl hbA h2 dL_law_296 ?_
  refine g_ev (t2 := nm (xX5_set R (xs (i + 1).toNatClampNeg) (xs (i + 2).toNatClampNeg)) (fun _ => ())) rfl ?_
  refine g_Vei C (pc := 297) (As := [.int (xs (i + 1).toNatClampNeg), .int (xs (i + 2).toNatClampNeg)]) (kX5_set l D cA T g R (xs (i + 1).toNatClampNeg) (xs (i + 2).toNatClampNeg) hzR) (v_law_mod cA h g z.2 R) gL_law_X5_set rfl ⟨rfl, rfl⟩ ⟨Nat.le_of_ble_eq_true rfl, Nat.le_of_ble_eq_true rfl⟩ ⟨Nat.le_of_ble_eq_true rfl, Nat.le_of_ble_eq_true rfl⟩ rfl (Nat.le_of_ble_eq_true rfl) hdL_X5_set 0 rfl rfl rfl dL_law_297 (fun y ey hzy => ?_)
  refine g_ev (t2 := ()) rfl ?_
  refine g_conv (ws2 := mainW cA h z.2 ++ modW cA g y.2) rfl ?_
  have o := C_set hr ez ey
  refine g_icmp_eq0 C (pc := 300) 1157 dL_law_300 (by decide) (fun hc => ?_) (fun hc => absurd o.1 hc)
  exact K z.2 y.2 o.2 hzz hzy
set_option maxHeartbeats 4000000 in
theorem law_c3 {p : Program} {l : Launch} {e : Env} {s : State} {m : MethodId} {b : Nat} {below : List Frame} {meth : Method} {c : Code} {D : va_G} {cA : ClassId} {T : Nat × Nat × Nat} {A : Nat → Prop} {Q : State → Prop} {Ln : Nat} {xs : Nat → Int32} {h g : Nat → Nat} {X R : St} {i : Int32} {TT : Nat} (C : Cx p s m #[.ref b] meth c D cA T A cL_law 4 RL wsL_law ret) (hX0 : va_X b Ln xs s s.heap) (hbl : b < s.heap.size) (hbA : ¬ A b) (h1 : vp_in (i + 1) Ln) (h2 : vp_in (i + 2) Ln) (h3 : vp_in (i + 3) Ln) (h4 : vp_in (i + 4) Ln) (hr : REL TT X R) (hzX : Zmain X) (hzR : Zmod R) (hT : TT ≤ 1000000) (K : ∀ X2 R2 : St, REL (TT + 3000) X2 R2 → Zmain X2 → Zmod R2 → G p l e room_1 s m #[.ref b] below meth c 66 1618 D A Q 4 () () (mainW cA h X2 ++ modW cA g R2) 1157 [(3, .int i), (2, .ref (g 0)), (1, .ref (h 0)), (0, .ref b)] []) : G p l e room_1 s m #[.ref b] below meth c 66 1618 D A Q 4 () () (mainW cA h X ++ modW cA g R) 305 [(3, .int i), (2, .ref (g 0)), (1, .ref (h 0)), (0, .ref b)] [] := by
  have hm := mh_z hzX
  refine g_aload_n C (pc := 305) dL_law_305 2 rfl ?_
  refine g_aload_n C (pc := 306) dL_law_306 3 rfl ?_
  refine g_iload_n C (pc := 307) dL_law_307 0 rfl ?_
  refine g_iconst C (pc := 308) dL_law_308 cI_1 ?_
  refine g_iadd C (pc := 309) dL_law_309 ?_
  refine g_sld C (pc := 310) hX0 hbl hbA h1 dL_law_310 ?_
  refine g_ev (t2 := nm (xX4_glass X (xs (i + 1).toNatClampNeg)) (fun _ => ())) rfl ?_
  refine g_Vei C (pc := 311) (As := [.int (xs (i + 1).toNatClampNeg)]) (kX4_glass l D cA T h X (xs (i + 1).toNatClampNeg) hzX) (v_law_main cA h g X R) gL_law_X4_glass rfl ⟨rfl, rfl⟩ ⟨Nat.le_of_ble_eq_true rfl, Nat.le_of_ble_eq_true rfl⟩ ⟨Nat.le_of_ble_eq_true rfl, Nat.le_of_ble_eq_true rfl⟩ rfl (Nat.le_of_ble_eq_true rfl) hdL_X4_glass 0 rfl rfl rfl dL_law_311 (fun z ez hzz => ?_)
  refine g_ev (t2 := ()) rfl ?_
  refine g_conv (ws2 := mainW cA h z.2 ++ modW cA g R) rfl ?_
  refine g_aload_n C (pc := 314) dL_law_314 1 rfl ?_
  refine g_aload_n C (pc := 315) dL_law_315 3 rfl ?_
  refine g_iload_n C (pc := 316) dL_law_316 0 rfl ?_
  refine g_iconst C (pc := 317) dL_law_317 cI_1 ?_
  refine g_iadd C (pc := 318) dL_law_318 ?_
  refine g_sld C (pc := 319) hX0 hbl hbA h1 dL_law_319 ?_
  refine g_ev (t2 := nm (xX5_glass R (xs (i + 1).toNatClampNeg)) (fun _ => ())) rfl ?_
  refine g_Vei C (pc := 320) (As := [.int (xs (i + 1).toNatClampNeg)]) (kX5_glass l D cA T g R (xs (i + 1).toNatClampNeg) hzR) (v_law_mod cA h g z.2 R) gL_law_X5_glass rfl ⟨rfl, rfl⟩ ⟨Nat.le_of_ble_eq_true rfl, Nat.le_of_ble_eq_true rfl⟩ ⟨Nat.le_of_ble_eq_true rfl, Nat.le_of_ble_eq_true rfl⟩ rfl (Nat.le_of_ble_eq_true rfl) hdL_X5_glass 0 rfl rfl rfl dL_law_320 (fun y ey hzy => ?_)
  refine g_ev (t2 := ()) rfl ?_
  refine g_conv (ws2 := mainW cA h z.2 ++ modW cA g y.2) rfl ?_
  have o := C_glass hr ez ey
  refine g_icmp_eq0 C (pc := 323) 1157 dL_law_323 (by decide) (fun hc => ?_) (fun hc => absurd o.1 hc)
  exact K z.2 y.2 o.2 hzz hzy
set_option maxHeartbeats 4000000 in
theorem law_c4 {p : Program} {l : Launch} {e : Env} {s : State} {m : MethodId} {b : Nat} {below : List Frame} {meth : Method} {c : Code} {D : va_G} {cA : ClassId} {T : Nat × Nat × Nat} {A : Nat → Prop} {Q : State → Prop} {Ln : Nat} {xs : Nat → Int32} {h g : Nat → Nat} {X R : St} {i : Int32} {TT : Nat} (C : Cx p s m #[.ref b] meth c D cA T A cL_law 4 RL wsL_law ret) (hX0 : va_X b Ln xs s s.heap) (hbl : b < s.heap.size) (hbA : ¬ A b) (h1 : vp_in (i + 1) Ln) (h2 : vp_in (i + 2) Ln) (h3 : vp_in (i + 3) Ln) (h4 : vp_in (i + 4) Ln) (hr : REL TT X R) (hzX : Zmain X) (hzR : Zmod R) (hT : TT ≤ 1000000) (K : ∀ X2 R2 : St, REL (TT + 3000) X2 R2 → Zmain X2 → Zmod R2 → G p l e room_1 s m #[.ref b] below meth c 66 1618 D A Q 4 () () (mainW cA h X2 ++ modW cA g R2) 1157 [(3, .int i), (2, .ref (g 0)), (1, .ref (h 0)), (0, .ref b)] []) : G p l e room_1 s m #[.ref b] below meth c 66 1618 D A Q 4 () () (mainW cA h X ++ modW cA g R) 328 [(3, .int i), (2, .ref (g 0)), (1, .ref (h 0)), (0, .ref b)] [] := by
  have hm := mh_z hzX
  refine g_aload_n C (pc := 328) dL_law_328 2 rfl ?_
  refine g_aload_n C (pc := 329) dL_law_329 3 rfl ?_
  refine g_iload_n C (pc := 330) dL_law_330 0 rfl ?_
  refine g_iconst C (pc := 331) dL_law_331 cI_1 ?_
  refine g_iadd C (pc := 332) dL_law_332 ?_
  refine g_sld C (pc := 333) hX0 hbl hbA h1 dL_law_333 ?_
  refine g_ev (t2 := nm (xX4_wet X (xs (i + 1).toNatClampNeg)) (fun _ => ())) rfl ?_
  refine g_Vei C (pc := 334) (As := [.int (xs (i + 1).toNatClampNeg)]) (kX4_wet l D cA T h X (xs (i + 1).toNatClampNeg) hzX) (v_law_main cA h g X R) gL_law_X4_wet rfl ⟨rfl, rfl⟩ ⟨Nat.le_of_ble_eq_true rfl, Nat.le_of_ble_eq_true rfl⟩ ⟨Nat.le_of_ble_eq_true rfl, Nat.le_of_ble_eq_true rfl⟩ rfl (Nat.le_of_ble_eq_true rfl) hdL_X4_wet 0 rfl rfl rfl dL_law_334 (fun z ez hzz => ?_)
  refine g_ev (t2 := ()) rfl ?_
  refine g_conv (ws2 := mainW cA h z.2 ++ modW cA g R) rfl ?_
  refine g_aload_n C (pc := 337) dL_law_337 1 rfl ?_
  refine g_aload_n C (pc := 338) dL_law_338 3 rfl ?_
  refine g_iload_n C (pc := 339) dL_law_339 0 rfl ?_
  refine g_iconst C (pc := 340) dL_law_340 cI_1 ?_
  refine g_iadd C (pc := 341) dL_law_341 ?_
  refine g_sld C (pc := 342) hX0 hbl hbA h1 dL_law_342 ?_
  refine g_ev (t2 := nm (xX5_wet R (xs (i + 1).toNatClampNeg)) (fun _ => ())) rfl ?_
  refine g_Vei C (pc := 343) (As := [.int (xs (i + 1).toNatClampNeg)]) (kX5_wet l D cA T g R (xs (i + 1).toNatClampNeg) hzR) (v_law_mod cA h g z.2 R) gL_law_X5_wet rfl ⟨rfl, rfl⟩ ⟨Nat.le_of_ble_eq_true rfl, Nat.le_of_ble_eq_true rfl⟩ ⟨Nat.le_of_ble_eq_true rfl, Nat.le_of_ble_eq_true rfl⟩ rfl (Nat.le_of_ble_eq_true rfl) hdL_X5_wet 0 rfl rfl rfl dL_law_343 (fun y ey hzy => ?_)
  refine g_ev (t2 := ()) rfl ?_
  refine g_conv (ws2 := mainW cA h z.2 ++ modW cA g y.2) rfl ?_
  have o := C_wet hr ez ey
  refine g_icmp_eq0 C (pc := 346) 1157 dL_law_346 (by decide) (fun hc => ?_) (fun hc => absurd o.1 hc)
  exact K z.2 y.2 o.2 hzz hzy
set_option maxHeartbeats 4000000 in
theorem law_c5 {p : Program} {l : Launch} {e : Env} {s : State} {m : MethodId} {b : Nat} {below : List Frame} {meth : Method} {c : Code} {D : va_G} {cA : ClassId} {T : Nat × Nat × Nat} {A : Nat → Prop} {Q : State → Prop} {Ln : Nat} {xs : Nat → Int32} {h g : Nat → Nat} {X R : St} {i : Int32} {TT : Nat} (C : Cx p s m #[.ref b] meth c D cA T A cL_law 4 RL wsL_law ret) (hX0 : va_X b Ln xs s s.heap) (hbl : b < s.heap.size) (hbA : ¬ A b) (h1 : vp_in (i + 1) Ln) (h2 : vp_in (i + 2) Ln) (h3 : vp_in (i + 3) Ln) (h4 : vp_in (i + 4) Ln) (hr : REL TT X R) (hzX : Zmain X) (hzR : Zmod R) (hT : TT ≤ 1000000) (K : ∀ X2 R2 : St, REL (TT + 3000) X2 R2 → Zmain X2 → Zmod R2 → G p l e room_1 s m #[.ref b] below meth c 66 1618 D A Q 4 () () (mainW cA h X2 ++ modW cA g R2) 1157 [(3, .int i), (2, .ref (g 0)), (1, .ref (h 0)), (0, .ref b)] []) : G p l e room_1 s m #[.ref b] below meth c 66 1618 D A Q 4 () () (mainW cA h X ++ modW cA g R) 351 [(3, .int i), (2, .ref (g 0)), (1, .ref (h 0)), (0, .ref b)] [] := by
  have hm := mh_z hzX
  refine g_aload_n C (pc := 351) dL_law_351 2 rfl ?_
  refine g_aload_n C (pc := 352) dL_law_352 3 rfl ?_
  refine g_iload_n C (pc := 353) dL_law_353 0 rfl ?_
  refine g_iconst C (pc := 354) dL_law_354 cI_1 ?_
  refine g_iadd C (pc := 355) dL_law_355 ?_
  refine g_sld C (pc := 356) hX0 hbl hbA h1 dL_law_356 ?_
  refine g_ev (t2 := nm (xX4_run X (xs (i + 1).toNatClampNeg)) (fun _ => ())) rfl ?_
  refine g_Vei C (pc := 357) (As := [.int (xs (i + 1).toNatClampNeg)]) (kX4_run l D cA T h X (xs (i + 1).toNatClampNeg) hzX) (v_law_main cA h g X R) gL_law_X4_run rfl ⟨rfl, rfl⟩ ⟨Nat.le_of_ble_eq_true rfl, Nat.le_of_ble_eq_true rfl⟩ ⟨Nat.le_of_ble_eq_true rfl, Nat.le_of_ble_eq_true rfl⟩ rfl (Nat.le_of_ble_eq_true rfl) hdL_X4_run 0 rfl rfl rfl dL_law_357 (fun z ez hzz => ?_)
  refine g_ev (t2 := ()) rfl ?_
  refine g_conv (ws2 := mainW cA h z.2 ++ modW cA g R) rfl ?_
  refine g_aload_n C (pc := 360) dL_law_360 1 rfl ?_
  refine g_aload_n C (pc := 361) dL_law_361 3 rfl ?_
  refine g_iload_n C (pc := 362) dL_law_362 0 rfl ?_
  refine g_iconst C (pc := 363) dL_law_363 cI_1 ?_
  refine g_iadd C (pc := 364) dL_law_364 ?_
  refine g_sld C (pc := 365) hX0 hbl hbA h1 dL_law_365 ?_
  refine g_ev (t2 := nm (xX5_run R (xs (i + 1).toNatClampNeg)) (fun _ => ())) rfl ?_
  refine g_Vei C (pc := 366) (As := [.int (xs (i + 1).toNatClampNeg)]) (kX5_run l D cA T g R (xs (i + 1).toNatClampNeg) hzR) (v_law_mod cA h g z.2 R) gL_law_X5_run rfl ⟨rfl, rfl⟩ ⟨Nat.le_of_ble_eq_true rfl, Nat.le_of_ble_eq_true rfl⟩ ⟨Nat.le_of_ble_eq_true rfl, Nat.le_of_ble_eq_true rfl⟩ rfl (Nat.le_of_ble_eq_true rfl) hdL_X5_run 0 rfl rfl rfl dL_law_366 (fun y ey hzy => ?_)
  refine g_ev (t2 := ()) rfl ?_
  refine g_conv (ws2 := mainW cA h z.2 ++ modW cA g y.2) rfl ?_
  have o := C_run (by omega) hr ez ey
  refine g_icmp_eq0 C (pc := 369) 1157 dL_law_369 (by decide) (fun hc => ?_) (fun hc => absurd o.1 hc)
  exact K z.2 y.2 o.2 hzz hzy
set_option maxHeartbeats 4000000 in
theorem law_c6 {p : Program} {l : Launch} {e : Env} {s : State} {m : MethodId} {b : Nat} {below : List Frame} {meth : Method} {c : Code} {D : va_G} {cA : ClassId} {T : Nat × Nat × Nat} {A : Nat → Prop} {Q : State → Prop} {Ln : Nat} {xs : Nat → Int32} {h g : Nat → Nat} {X R : St} {i : Int32} {TT : Nat} (C : Cx p s m #[.ref b] meth c D cA T A cL_law 4 RL wsL_law ret) (hX0 : va_X b Ln xs s s.heap) (hbl : b < s.heap.size) (hbA : ¬ A b) (h1 : vp_in (i + 1) Ln) (h2 : vp_in (i + 2) Ln) (h3 : vp_in (i + 3) Ln) (h4 : vp_in (i + 4) Ln) (hr : REL TT X R) (hzX : Zmain X) (hzR : Zmod R) (hT : TT ≤ 1000000) (K : ∀ X2 R2 : St, REL (TT + 3000) X2 R2 → Zmain X2 → Zmod R2 → G p l e room_1 s m #[.ref b] below meth c 66 1618 D A Q 4 () () (mainW cA h X2 ++ modW cA g R2) 1157 [(3, .int i), (2, .ref (g 0)), (1, .ref (h 0)), (0, .ref b)] []) : G p l e room_1 s m #[.ref b] below meth c 66 1618 D A Q 4 () () (mainW cA h X ++ modW cA g R) 374 [(3, .int i), (2, .ref (g 0)), (1, .ref (h 0)), (0, .ref b)] [] := by
  have hm := mh_z hzX
  refine g_aload_n C (pc := 374) dL_law_374 2 rfl ?_
  refine g_aload_n C (pc := 375) dL_law_375 3 rfl ?_
  refine g_iload_n C (pc := 376) dL_law_376 0 rfl ?_
  refine g_iconst C (pc := 377) dL_law_377 cI_1 ?_
  refine g_iadd C (pc := 378) dL_law_378 ?_
  refine g_sld C (pc := 379) hX0 hbl hbA h1 dL_law_379 ?_
  refine g_ev (t2 := nm (xX4_now X (xs (i + 1).toNatClampNeg)) (fun _ => ())) rfl ?_
  refine g_Vei C (pc := 380) (As := [.int (xs (i + 1).toNatClampNeg)]) (kX4_now l D cA T h X (xs (i + 1).toNatClampNeg) hzX) (v_law_main cA h g X R) gL_law_X4_now rfl ⟨rfl, rfl⟩ ⟨Nat.le_of_ble_eq_true rfl, Nat.le_of_ble_eq_true rfl⟩ ⟨Nat.le_of_ble_eq_true rfl, Nat.le_of_ble_eq_true rfl⟩ rfl (Nat.le_of_ble_eq_true rfl) hdL_X4_now 0 rfl rfl rfl dL_law_380 (fun z ez hzz => ?_)
  refine g_ev (t2 := ()) rfl ?_
  refine g_conv (ws2 := mainW cA h z.2 ++ modW cA g R) rfl ?_
  refine g_aload_n C (pc := 383) dL_law_383 1 rfl ?_
  refine g_aload_n C (pc := 384) dL_law_384 3 rfl ?_
  refine g_iload_n C (pc := 385) dL_law_385 0 rfl ?_
  refine g_iconst C (pc := 386) dL_law_386 cI_1 ?_
  refine g_iadd C (pc := 387) dL_law_387 ?_
  refine g_sld C (pc := 388) hX0 hbl hbA h1 dL_law_388 ?_
  refine g_ev (t2 := nm (xX5_now R (xs (i + 1).toNatClampNeg)) (fun _ => ())) rfl ?_
  refine g_Vei C (pc := 389) (As := [.int (xs (i + 1).toNatClampNeg)]) (kX5_now l D cA T g R (xs (i + 1).toNatClampNeg) hzR) (v_law_mod cA h g z.2 R) gL_law_X5_now rfl ⟨rfl, rfl⟩ ⟨Nat.le_of_ble_eq_true rfl, Nat.le_of_ble_eq_true rfl⟩ ⟨Nat.le_of_ble_eq_true rfl, Nat.le_of_ble_eq_true rfl⟩ rfl (Nat.le_of_ble_eq_true rfl) hdL_X5_now 0 rfl rfl rfl dL_law_389 (fun y ey hzy => ?_)
  refine g_ev (t2 := ()) rfl ?_
  refine g_conv (ws2 := mainW cA h z.2 ++ modW cA g y.2) rfl ?_
  have o := C_now hr ez ey
  refine g_icmp_eq0 C (pc := 392) 1157 dL_law_392 (by decide) (fun hc => ?_) (fun hc => absurd o.1 hc)
  exact K z.2 y.2 o.2 hzz hzy
set_option maxHeartbeats 4000000 in
theorem law_c7 {p : Program} {l : Launch} {e : Env} {s : State} {m : MethodId} {b : Nat} {below : List Frame} {meth : Method} {c : Code} {D : va_G} {cA : ClassId} {T : Nat × Nat × Nat} {A : Nat → Prop} {Q : State → Prop} {Ln : Nat} {xs : Nat → Int32} {h g : Nat → Nat} {X R : St} {i : Int32} {TT : Nat} (C : Cx p s m #[.ref b] meth c D cA T A cL_law 4 RL wsL_law ret) (hX0 : va_X b Ln xs s s.heap) (hbl : b < s.heap.size) (hbA : ¬ A b) (h1 : vp_in (i + 1) Ln) (h2 : vp_in (i + 2) Ln) (h3 : vp_in (i + 3) Ln) (h4 : vp_in (i + 4) Ln) (hr : REL TT X R) (hzX : Zmain X) (hzR : Zmod R) (hT : TT ≤ 1000000) (K : ∀ X2 R2 : St, REL (TT + 3000) X2 R2 → Zmain X2 → Zmod R2 → G p l e room_1 s m #[.ref b] below meth c 66 1618 D A Q 4 () () (mainW cA h X2 ++ modW cA g R2) 1157 [(3, .int i), (2, .ref (g 0)), (1, .ref (h 0)), (0, .ref b)] []) : G p l e room_1 s m #[.ref b] below meth c 66 1618 D A Q 4 () () (mainW cA h X ++ modW cA g R) 397 [(3, .int i), (2, .ref (g 0)), (1, .ref (h 0)), (0, .ref b)] [] := by
  have hm := mh_z hzX
  refine g_aload_n C (pc := 397) dL_law_397 2 rfl ?_
  refine g_aload_n C (pc := 398) dL_law_398 3 rfl ?_
  refine g_iload_n C (pc := 399) dL_law_399 0 rfl ?_
  refine g_iconst C (pc := 400) dL_law_400 cI_1 ?_
  refine g_iadd C (pc := 401) dL_law_401 ?_
  refine g_sld C (pc := 402) hX0 hbl hbA h1 dL_law_402 ?_
  refine g_ev (t2 := nm (xX4_air X (xs (i + 1).toNatClampNeg)) (fun _ => ())) rfl ?_
  refine g_Vei C (pc := 403) (As := [.int (xs (i + 1).toNatClampNeg)]) (kX4_air l D cA T h X (xs (i + 1).toNatClampNeg) hzX) (v_law_main cA h g X R) gL_law_X4_air rfl ⟨rfl, rfl⟩ ⟨Nat.le_of_ble_eq_true rfl, Nat.le_of_ble_eq_true rfl⟩ ⟨Nat.le_of_ble_eq_true rfl, Nat.le_of_ble_eq_true rfl⟩ rfl (Nat.le_of_ble_eq_true rfl) hdL_X4_air 0 rfl rfl rfl dL_law_403 (fun z ez hzz => ?_)
  refine g_ev (t2 := ()) rfl ?_
  refine g_conv (ws2 := mainW cA h z.2 ++ modW cA g R) rfl ?_
  refine g_aload_n C (pc := 406) dL_law_406 1 rfl ?_
  refine g_aload_n C (pc := 407) dL_law_407 3 rfl ?_
  refine g_iload_n C (pc := 408) dL_law_408 0 rfl ?_
  refine g_iconst C (pc := 409) dL_law_409 cI_1 ?_
  refine g_iadd C (pc := 410) dL_law_410 ?_
  refine g_sld C (pc := 411) hX0 hbl hbA h1 dL_law_411 ?_
  refine g_ev (t2 := nm (xX5_air R (xs (i + 1).toNatClampNeg)) (fun _ => ())) rfl ?_
  refine g_Vei C (pc := 412) (As := [.int (xs (i + 1).toNatClampNeg)]) (kX5_air l D cA T g R (xs (i + 1).toNatClampNeg) hzR) (v_law_mod cA h g z.2 R) gL_law_X5_air rfl ⟨rfl, rfl⟩ ⟨Nat.le_of_ble_eq_true rfl, Nat.le_of_ble_eq_true rfl⟩ ⟨Nat.le_of_ble_eq_true rfl, Nat.le_of_ble_eq_true rfl⟩ rfl (Nat.le_of_ble_eq_true rfl) hdL_X5_air 0 rfl rfl rfl dL_law_412 (fun y ey hzy => ?_)
  refine g_ev (t2 := ()) rfl ?_
  refine g_conv (ws2 := mainW cA h z.2 ++ modW cA g y.2) rfl ?_
  have o := C_air hr ez ey
  refine g_icmp_eq0 C (pc := 415) 1157 dL_law_415 (by decide) (fun hc => ?_) (fun hc => absurd o.1 hc)
  exact K z.2 y.2 o.2 hzz hzy
set_option maxHeartbeats 4000000 in
theorem law_c8 {p : Program} {l : Launch} {e : Env} {s : State} {m : MethodId} {b : Nat} {below : List Frame} {meth : Method} {c : Code} {D : va_G} {cA : ClassId} {T : Nat × Nat × Nat} {A : Nat → Prop} {Q : State → Prop} {Ln : Nat} {xs : Nat → Int32} {h g : Nat → Nat} {X R : St} {i : Int32} {TT : Nat} (C : Cx p s m #[.ref b] meth c D cA T A cL_law 4 RL wsL_law ret) (hX0 : va_X b Ln xs s s.heap) (hbl : b < s.heap.size) (hbA : ¬ A b) (h1 : vp_in (i + 1) Ln) (h2 : vp_in (i + 2) Ln) (h3 : vp_in (i + 3) Ln) (h4 : vp_in (i + 4) Ln) (hr : REL TT X R) (hzX : Zmain X) (hzR : Zmod R) (hT : TT ≤ 1000000) (K : ∀ X2 R2 : St, REL (TT + 3000) X2 R2 → Zmain X2 → Zmod R2 → G p l e room_1 s m #[.ref b] below meth c 66 1618 D A Q 4 () () (mainW cA h X2 ++ modW cA g R2) 1157 [(3, .int i), (2, .ref (g 0)), (1, .ref (h 0)), (0, .ref b)] []) : G p l e room_1 s m #[.ref b] below meth c 66 1618 D A Q 4 () () (mainW cA h X ++ modW cA g R) 420 [(3, .int i), (2, .ref (g 0)), (1, .ref (h 0)), (0, .ref b)] [] := by
  have hm := mh_z hzX
  refine g_aload_n C (pc := 420) dL_law_420 2 rfl ?_
  refine g_Vpi C (pc := 421) (As := []) (kX4_full l D cA T h X hzX) (v_law_main cA h g X R) gL_law_X4_full rfl ⟨rfl, rfl⟩ ⟨Nat.le_of_ble_eq_true rfl, Nat.le_of_ble_eq_true rfl⟩ ⟨Nat.le_of_ble_eq_true rfl, Nat.le_of_ble_eq_true rfl⟩ rfl (Nat.le_of_ble_eq_true rfl) hdL_X4_full 0 rfl rfl rfl dL_law_421 ?_
  refine g_aload_n C (pc := 424) dL_law_424 1 rfl ?_
  refine g_Vpi C (pc := 425) (As := []) (kX5_full l D cA T g R hzR) (v_law_mod cA h g X R) gL_law_X5_full rfl ⟨rfl, rfl⟩ ⟨Nat.le_of_ble_eq_true rfl, Nat.le_of_ble_eq_true rfl⟩ ⟨Nat.le_of_ble_eq_true rfl, Nat.le_of_ble_eq_true rfl⟩ rfl (Nat.le_of_ble_eq_true rfl) hdL_X5_full 0 rfl rfl rfl dL_law_425 ?_
  refine g_icmp_eq0 C (pc := 428) 1157 dL_law_428 (by decide) (fun hc => ?_) (fun hc => absurd (C_full hr) hc)
  exact K X R (hr.mono (by omega)) hzX hzR
set_option maxHeartbeats 4000000 in
theorem law_c9 {p : Program} {l : Launch} {e : Env} {s : State} {m : MethodId} {b : Nat} {below : List Frame} {meth : Method} {c : Code} {D : va_G} {cA : ClassId} {T : Nat × Nat × Nat} {A : Nat → Prop} {Q : State → Prop} {Ln : Nat} {xs : Nat → Int32} {h g : Nat → Nat} {X R : St} {i : Int32} {TT : Nat} (C : Cx p s m #[.ref b] meth c D cA T A cL_law 4 RL wsL_law ret) (hX0 : va_X b Ln xs s s.heap) (hbl : b < s.heap.size) (hbA : ¬ A b) (h1 : vp_in (i + 1) Ln) (h2 : vp_in (i + 2) Ln) (h3 : vp_in (i + 3) Ln) (h4 : vp_in (i + 4) Ln) (hr : REL TT X R) (hzX : Zmain X) (hzR : Zmod R) (hT : TT ≤ 1000000) (K : ∀ X2 R2 : St, REL (TT + 3000) X2 R2 → Zmain X2 → Zmod R2 → G p l e room_1 s m #[.ref b] below meth c 66 1618 D A Q 4 () () (mainW cA h X2 ++ modW cA g R2) 1157 [(3, .int i), (2, .ref (g 0)), (1, .ref (h 0)), (0, .ref b)] []) : G p l e room_1 s m #[.ref b] below meth c 66 1618 D A Q 4 () () (mainW cA h X ++ modW cA g R) 433 [(3, .int i), (2, .ref (g 0)), (1, .ref (h 0)), (0, .ref b)] [] := by
  have hm := mh_z hzX
  refine g_aload_n C (pc := 433) dL_law_433 2 rfl ?_
  refine g_aload_n C (pc := 434) dL_law_434 3 rfl ?_
  refine g_iload_n C (pc := 435) dL_law_435 0 rfl ?_
  refine g_iconst C (pc := 436) dL_law_436 cI_1 ?_
  refine g_iadd C (pc := 437) dL_law_437 ?_
  refine g_sld C (pc := 438) hX0 hbl hbA h1 dL_law_438 ?_
  refine g_ev (t2 := nm (xX4_often X (xs (i + 1).toNatClampNeg)) (fun _ => ())) rfl ?_
  refine g_Vei C (pc := 439) (As := [.int (xs (i + 1).toNatClampNeg)]) (kX4_often l D cA T h X (xs (i + 1).toNatClampNeg) hzX) (v_law_main cA h g X R) gL_law_X4_often rfl ⟨rfl, rfl⟩ ⟨Nat.le_of_ble_eq_true rfl, Nat.le_of_ble_eq_true rfl⟩ ⟨Nat.le_of_ble_eq_true rfl, Nat.le_of_ble_eq_true rfl⟩ rfl (Nat.le_of_ble_eq_true rfl) hdL_X4_often 0 rfl rfl rfl dL_law_439 (fun z ez hzz => ?_)
  refine g_ev (t2 := ()) rfl ?_
  refine g_conv (ws2 := mainW cA h z.2 ++ modW cA g R) rfl ?_
  refine g_aload_n C (pc := 442) dL_law_442 1 rfl ?_
  refine g_aload_n C (pc := 443) dL_law_443 3 rfl ?_
  refine g_iload_n C (pc := 444) dL_law_444 0 rfl ?_
  refine g_iconst C (pc := 445) dL_law_445 cI_1 ?_
  refine g_iadd C (pc := 446) dL_law_446 ?_
  refine g_sld C (pc := 447) hX0 hbl hbA h1 dL_law_447 ?_
  refine g_ev (t2 := nm (xX5_often R (xs (i + 1).toNatClampNeg)) (fun _ => ())) rfl ?_
  refine g_Vei C (pc := 448) (As := [.int (xs (i + 1).toNatClampNeg)]) (kX5_often l D cA T g R (xs (i + 1).toNatClampNeg) hzR) (v_law_mod cA h g z.2 R) gL_law_X5_often rfl ⟨rfl, rfl⟩ ⟨Nat.le_of_ble_eq_true rfl, Nat.le_of_ble_eq_true rfl⟩ ⟨Nat.le_of_ble_eq_true rfl, Nat.le_of_ble_eq_true rfl⟩ rfl (Nat.le_of_ble_eq_true rfl) hdL_X5_often 0 rfl rfl rfl dL_law_448 (fun y ey hzy => ?_)
  refine g_ev (t2 := ()) rfl ?_
  refine g_conv (ws2 := mainW cA h z.2 ++ modW cA g y.2) rfl ?_
  have o := C_often hr ez ey
  refine g_icmp_eq0 C (pc := 451) 1157 dL_law_451 (by decide) (fun hc => ?_) (fun hc => absurd o.1 hc)
  exact K z.2 y.2 o.2 hzz hzy
