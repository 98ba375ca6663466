set_option maxHeartbeats 4000000 in
theorem law_c10 {p : Program} {l : Launch} {e : Env} {s : State} {m : MethodId} {b : Nat} {below : List Frame} {meth : Method} {c : Code} {D : va_G} {cA : ClassId} {T : Nat × Nat × Nat} {A : Nat → Prop} {Q : State → Prop} {Ln : Nat} {xs : Nat → Int32} {h g : Nat → Nat} {X R : St} {i : Int32} {TT : Nat} (C : Cx p s m #[.ref b] meth c D cA T A cL_law 4 RL wsL_law ret) (hX0 : va_X b Ln xs s s.heap) (hbl : b < s.heap.size) (hbA : ¬ A b) (h1 : vp_in (i + 1) Ln) (h2 : vp_in (i + 2) Ln) (h3 : vp_in (i + 3) Ln) (h4 : vp_in (i + 4) Ln) (hr : REL TT X R) (hzX : Zmain X) (hzR : Zmod R) (hT : TT ≤ 1000000) (K : ∀ X2 R2 : St, REL (TT + 3000) X2 R2 → Zmain X2 → Zmod R2 → G p l e room_1 s m #[.ref b] below meth c 66 1618 D A Q 4 () () (mainW cA h X2 ++ modW cA g R2) 1157 [(3, .int i), (2, .ref (g 0)), (1, .ref (h 0)), (0, .ref b)] []) : G p l e room_1 s m #[.ref b] below meth c 66 1618 D A Q 4 () () (mainW cA h X ++ modW cA g R) 456 [(3, .int i), (2, .ref (g 0)), (1, .ref (h 0)), (0, .ref b)] [] := by
  have hm := mh_z hzX
  refine g_aload_n C (pc := 456) dL_law_456 2 rfl ?_
  refine g_aload_n C (pc := 457) dL_law_457 3 rfl ?_
  refine g_iload_n C (pc := 458) dL_law_458 0 rfl ?_
  refine g_iconst C (pc := 459) dL_law_459 cI_1 ?_
  refine g_iadd C (pc := 460) dL_law_460 ?_
  refine g_sld C (pc := 461) hX0 hbl hbA h1 dL_law_461 ?_
  refine g_aload_n C (pc := 462) dL_law_462 3 rfl ?_
  refine g_iload_n C (pc := 463) dL_law_463 0 rfl ?_
  refine g_iconst C (pc := 464) dL_law_464 cI_2 ?_
  refine g_iadd C (pc := 465) dL_law_465 ?_
  refine g_sld C (pc := 466) hX0 hbl hbA h2 dL_law_466 ?_
  refine g_ev (t2 := nm (xX4_law X (xs (i + 1).toNatClampNeg) (xs (i + 2).toNatClampNeg)) (fun _ => ())) rfl ?_
  refine g_Vei C (pc := 467) (As := [.int (xs (i + 1).toNatClampNeg), .int (xs (i + 2).toNatClampNeg)]) (kX4_law l D cA T h X (xs (i + 1).toNatClampNeg) (xs (i + 2).toNatClampNeg) hzX) (v_law_main cA h g X R) gL_law_X4_law rfl ⟨rfl, rfl⟩ ⟨Nat.le_of_ble_eq_true rfl, Nat.le_of_ble_eq_true rfl⟩ ⟨Nat.le_of_ble_eq_true rfl, Nat.le_of_ble_eq_true rfl⟩ rfl (Nat.le_of_ble_eq_true rfl) hdL_X4_law 0 rfl rfl rfl dL_law_467 (fun z ez hzz => ?_)
  refine g_ev (t2 := ()) rfl ?_
  refine g_conv (ws2 := mainW cA h z.2 ++ modW cA g R) rfl ?_
  refine g_aload_n C (pc := 470) dL_law_470 1 rfl ?_
  refine g_aload_n C (pc := 471) dL_law_471 3 rfl ?_
  refine g_iload_n C (pc := 472) dL_law_472 0 rfl ?_
  refine g_iconst C (pc := 473) dL_law_473 cI_1 ?_
  refine g_iadd C (pc := 474) dL_law_474 ?_
  refine g_sld C (pc := 475) hX0 hbl hbA h1 dL_law_475 ?_
  refine g_aload_n C (pc := 476) dL_law_476 3 rfl ?_
  refine g_iload_n C (pc := 477) dL_law_477 0 rfl ?_
  refine g_iconst C (pc := 478) dL_law_478 cI_2 ?_
  refine g_iadd C (pc := 479) dL_law_479 ?_
  refine g_sld C (pc := 480) hX0 hbl hbA h2 dL_law_480 ?_
  refine g_ev (t2 := nm (xX5_law R (xs (i + 1).toNatClampNeg) (xs (i + 2).toNatClampNeg)) (fun _ => ())) rfl ?_
  refine g_Vei C (pc := 481) (As := [.int (xs (i + 1).toNatClampNeg), .int (xs (i + 2).toNatClampNeg)]) (kX5_law l D cA T g R (xs (i + 1).toNatClampNeg) (xs (i + 2).toNatClampNeg) hzR) (v_law_mod cA h g z.2 R) gL_law_X5_law rfl ⟨rfl, rfl⟩ ⟨Nat.le_of_ble_eq_true rfl, Nat.le_of_ble_eq_true rfl⟩ ⟨Nat.le_of_ble_eq_true rfl, Nat.le_of_ble_eq_true rfl⟩ rfl (Nat.le_of_ble_eq_true rfl) hdL_X5_law 0 rfl rfl rfl dL_law_481 (fun y ey hzy => ?_)
  refine g_ev (t2 := ()) rfl ?_
  refine g_conv (ws2 := mainW cA h z.2 ++ modW cA g y.2) rfl ?_
  have o := C_law hr hm ez ey
  refine g_icmp_eq0 C (pc := 484) 1157 dL_law_484 (by decide) (fun hc => ?_) (fun hc => absurd o.1 hc)
  exact K z.2 y.2 o.2 hzz hzy
set_option maxHeartbeats 4000000 in
theorem law_c11 {p : Program} {l : Launch} {e : Env} {s : State} {m : MethodId} {b : Nat} {below : List Frame} {meth : Method} {c : Code} {D : va_G} {cA : ClassId} {T : Nat × Nat × Nat} {A : Nat → Prop} {Q : State → Prop} {Ln : Nat} {xs : Nat → Int32} {h g : Nat → Nat} {X R : St} {i : Int32} {TT : Nat} (C : Cx p s m #[.ref b] meth c D cA T A cL_law 4 RL wsL_law ret) (hX0 : va_X b Ln xs s s.heap) (hbl : b < s.heap.size) (hbA : ¬ A b) (h1 : vp_in (i + 1) Ln) (h2 : vp_in (i + 2) Ln) (h3 : vp_in (i + 3) Ln) (h4 : vp_in (i + 4) Ln) (hr : REL TT X R) (hzX : Zmain X) (hzR : Zmod R) (hT : TT ≤ 1000000) (K : ∀ X2 R2 : St, REL (TT + 3000) X2 R2 → Zmain X2 → Zmod R2 → G p l e room_1 s m #[.ref b] below meth c 66 1618 D A Q 4 () () (mainW cA h X2 ++ modW cA g R2) 1157 [(3, .int i), (2, .ref (g 0)), (1, .ref (h 0)), (0, .ref b)] []) : G p l e room_1 s m #[.ref b] below meth c 66 1618 D A Q 4 () () (mainW cA h X ++ modW cA g R) 489 [(3, .int i), (2, .ref (g 0)), (1, .ref (h 0)), (0, .ref b)] [] := by
  have hm := mh_z hzX
  refine g_aload_n C (pc := 489) dL_law_489 2 rfl ?_
  refine g_aload_n C (pc := 490) dL_law_490 3 rfl ?_
  refine g_iload_n C (pc := 491) dL_law_491 0 rfl ?_
  refine g_iconst C (pc := 492) dL_law_492 cI_1 ?_
  refine g_iadd C (pc := 493) dL_law_493 ?_
  refine g_sld C (pc := 494) hX0 hbl hbA h1 dL_law_494 ?_
  refine g_ev (t2 := nm (xX4_stops X (xs (i + 1).toNatClampNeg)) (fun _ => ())) rfl ?_
  refine g_Vei C (pc := 495) (As := [.int (xs (i + 1).toNatClampNeg)]) (kX4_stops l D cA T h X (xs (i + 1).toNatClampNeg) hzX) (v_law_main cA h g X R) gL_law_X4_stops rfl ⟨rfl, rfl⟩ ⟨Nat.le_of_ble_eq_true rfl, Nat.le_of_ble_eq_true rfl⟩ ⟨Nat.le_of_ble_eq_true rfl, Nat.le_of_ble_eq_true rfl⟩ rfl (Nat.le_of_ble_eq_true rfl) hdL_X4_stops 0 rfl rfl rfl dL_law_495 (fun z ez hzz => ?_)
  refine g_ev (t2 := ()) rfl ?_
  refine g_conv (ws2 := mainW cA h z.2 ++ modW cA g R) rfl ?_
  refine g_aload_n C (pc := 498) dL_law_498 1 rfl ?_
  refine g_aload_n C (pc := 499) dL_law_499 3 rfl ?_
  refine g_iload_n C (pc := 500) dL_law_500 0 rfl ?_
  refine g_iconst C (pc := 501) dL_law_501 cI_1 ?_
  refine g_iadd C (pc := 502) dL_law_502 ?_
  refine g_sld C (pc := 503) hX0 hbl hbA h1 dL_law_503 ?_
  refine g_ev (t2 := nm (xX5_stops R (xs (i + 1).toNatClampNeg)) (fun _ => ())) rfl ?_
  refine g_Vei C (pc := 504) (As := [.int (xs (i + 1).toNatClampNeg)]) (kX5_stops l D cA T g R (xs (i + 1).toNatClampNeg) hzR) (v_law_mod cA h g z.2 R) gL_law_X5_stops rfl ⟨rfl, rfl⟩ ⟨Nat.le_of_ble_eq_true rfl, Nat.le_of_ble_eq_true rfl⟩ ⟨Nat.le_of_ble_eq_true rfl, Nat.le_of_ble_eq_true rfl⟩ rfl (Nat.le_of_ble_eq_true rfl) hdL_X5_stops 0 rfl rfl rfl dL_law_504 (fun y ey hzy => ?_)
  refine g_ev (t2 := ()) rfl ?_
  refine g_conv (ws2 := mainW cA h z.2 ++ modW cA g y.2) rfl ?_
  have o := C_stops hr hm ez ey
  refine g_icmp_eq0 C (pc := 507) 1157 dL_law_507 (by decide) (fun hc => ?_) (fun hc => absurd o.1 hc)
  exact K z.2 y.2 o.2 hzz hzy
set_option maxHeartbeats 4000000 in
theorem law_c12 {p : Program} {l : Launch} {e : Env} {s : State} {m : MethodId} {b : Nat} {below : List Frame} {meth : Method} {c : Code} {D : va_G} {cA : ClassId} {T : Nat × Nat × Nat} {A : Nat → Prop} {Q : State → Prop} {Ln : Nat} {xs : Nat → Int32} {h g : Nat → Nat} {X R : St} {i : Int32} {TT : Nat} (C : Cx p s m #[.ref b] meth c D cA T A cL_law 4 RL wsL_law ret) (hX0 : va_X b Ln xs s s.heap) (hbl : b < s.heap.size) (hbA : ¬ A b) (h1 : vp_in (i + 1) Ln) (h2 : vp_in (i + 2) Ln) (h3 : vp_in (i + 3) Ln) (h4 : vp_in (i + 4) Ln) (hr : REL TT X R) (hzX : Zmain X) (hzR : Zmod R) (hT : TT ≤ 1000000) (K : ∀ X2 R2 : St, REL (TT + 3000) X2 R2 → Zmain X2 → Zmod R2 → G p l e room_1 s m #[.ref b] below meth c 66 1618 D A Q 4 () () (mainW cA h X2 ++ modW cA g R2) 1157 [(3, .int i), (2, .ref (g 0)), (1, .ref (h 0)), (0, .ref b)] []) : G p l e room_1 s m #[.ref b] below meth c 66 1618 D A Q 4 () () (mainW cA h X ++ modW cA g R) 512 [(3, .int i), (2, .ref (g 0)), (1, .ref (h 0)), (0, .ref b)] [] := by
  have hm := mh_z hzX
  refine g_aload_n C (pc := 512) dL_law_512 2 rfl ?_
  refine g_aload_n C (pc := 513) dL_law_513 3 rfl ?_
  refine g_iload_n C (pc := 514) dL_law_514 0 rfl ?_
  refine g_iconst C (pc := 515) dL_law_515 cI_1 ?_
  refine g_iadd C (pc := 516) dL_law_516 ?_
  refine g_sld C (pc := 517) hX0 hbl hbA h1 dL_law_517 ?_
  refine g_aload_n C (pc := 518) dL_law_518 3 rfl ?_
  refine g_iload_n C (pc := 519) dL_law_519 0 rfl ?_
  refine g_iconst C (pc := 520) dL_law_520 cI_2 ?_
  refine g_iadd C (pc := 521) dL_law_521 ?_
  refine g_sld C (pc := 522) hX0 hbl hbA h2 dL_law_522 ?_
  refine g_ev (t2 := nm (xX4_pegs X (xs (i + 1).toNatClampNeg) (xs (i + 2).toNatClampNeg)) (fun _ => ())) rfl ?_
  refine g_Vei C (pc := 523) (As := [.int (xs (i + 1).toNatClampNeg), .int (xs (i + 2).toNatClampNeg)]) (kX4_pegs l D cA T h X (xs (i + 1).toNatClampNeg) (xs (i + 2).toNatClampNeg) hzX) (v_law_main cA h g X R) gL_law_X4_pegs rfl ⟨rfl, rfl⟩ ⟨Nat.le_of_ble_eq_true rfl, Nat.le_of_ble_eq_true rfl⟩ ⟨Nat.le_of_ble_eq_true rfl, Nat.le_of_ble_eq_true rfl⟩ rfl (Nat.le_of_ble_eq_true rfl) hdL_X4_pegs 0 rfl rfl rfl dL_law_523 (fun z ez hzz => ?_)
  refine g_ev (t2 := ()) rfl ?_
  refine g_conv (ws2 := mainW cA h z.2 ++ modW cA g R) rfl ?_
  refine g_aload_n C (pc := 526) dL_law_526 1 rfl ?_
  refine g_aload_n C (pc := 527) dL_law_527 3 rfl ?_
  refine g_iload_n C (pc := 528) dL_law_528 0 rfl ?_
  refine g_iconst C (pc := 529) dL_law_529 cI_1 ?_
  refine g_iadd C (pc := 530) dL_law_530 ?_
  refine g_sld C (pc := 531) hX0 hbl hbA h1 dL_law_531 ?_
  refine g_aload_n C (pc := 532) dL_law_532 3 rfl ?_
  refine g_iload_n C (pc := 533) dL_law_533 0 rfl ?_
  refine g_iconst C (pc := 534) dL_law_534 cI_2 ?_
  refine g_iadd C (pc := 535) dL_law_535 ?_
  refine g_sld C (pc := 536) hX0 hbl hbA h2 dL_law_536 ?_
  refine g_ev (t2 := nm (xX5_pegs R (xs (i + 1).toNatClampNeg) (xs (i + 2).toNatClampNeg)) (fun _ => ())) rfl ?_
  refine g_Vei C (pc := 537) (As := [.int (xs (i + 1).toNatClampNeg), .int (xs (i + 2).toNatClampNeg)]) (kX5_pegs l D cA T g R (xs (i + 1).toNatClampNeg) (xs (i + 2).toNatClampNeg) hzR) (v_law_mod cA h g z.2 R) gL_law_X5_pegs rfl ⟨rfl, rfl⟩ ⟨Nat.le_of_ble_eq_true rfl, Nat.le_of_ble_eq_true rfl⟩ ⟨Nat.le_of_ble_eq_true rfl, Nat.le_of_ble_eq_true rfl⟩ rfl (Nat.le_of_ble_eq_true rfl) hdL_X5_pegs 0 rfl rfl rfl dL_law_537 (fun y ey hzy => ?_)
  refine g_ev (t2 := ()) rfl ?_
  refine g_conv (ws2 := mainW cA h z.2 ++ modW cA g y.2) rfl ?_
  have o := C_pegs hr hm ez ey
  refine g_icmp_eq0 C (pc := 540) 1157 dL_law_540 (by decide) (fun hc => ?_) (fun hc => absurd o.1 hc)
  exact K z.2 y.2 o.2 hzz hzy
set_option maxHeartbeats 4000000 in
theorem law_c13 {p : Program} {l : Launch} {e : Env} {s : State} {m : MethodId} {b : Nat} {below : List Frame} {meth : Method} {c : Code} {D : va_G} {cA : ClassId} {T : Nat × Nat × Nat} {A : Nat → Prop} {Q : State → Prop} {Ln : Nat} {xs : Nat → Int32} {h g : Nat → Nat} {X R : St} {i : Int32} {TT : Nat} (C : Cx p s m #[.ref b] meth c D cA T A cL_law 4 RL wsL_law ret) (hX0 : va_X b Ln xs s s.heap) (hbl : b < s.heap.size) (hbA : ¬ A b) (h1 : vp_in (i + 1) Ln) (h2 : vp_in (i + 2) Ln) (h3 : vp_in (i + 3) Ln) (h4 : vp_in (i + 4) Ln) (hr : REL TT X R) (hzX : Zmain X) (hzR : Zmod R) (hT : TT ≤ 1000000) (K : ∀ X2 R2 : St, REL (TT + 3000) X2 R2 → Zmain X2 → Zmod R2 → G p l e room_1 s m #[.ref b] below meth c 66 1618 D A Q 4 () () (mainW cA h X2 ++ modW cA g R2) 1157 [(3, .int i), (2, .ref (g 0)), (1, .ref (h 0)), (0, .ref b)] []) : G p l e room_1 s m #[.ref b] below meth c 66 1618 D A Q 4 () () (mainW cA h X ++ modW cA g R) 545 [(3, .int i), (2, .ref (g 0)), (1, .ref (h 0)), (0, .ref b)] [] := by
  have hm := mh_z hzX
  refine g_aload_n C (pc := 545) dL_law_545 2 rfl ?_
  refine g_aload_n C (pc := 546) dL_law_546 3 rfl ?_
  refine g_iload_n C (pc := 547) dL_law_547 0 rfl ?_
  refine g_iconst C (pc := 548) dL_law_548 cI_1 ?_
  refine g_iadd C (pc := 549) dL_law_549 ?_
  refine g_sld C (pc := 550) hX0 hbl hbA h1 dL_law_550 ?_
  refine g_ev (t2 := nm (xX4_widest X (xs (i + 1).toNatClampNeg)) (fun _ => ())) rfl ?_
  refine g_Vei C (pc := 551) (As := [.int (xs (i + 1).toNatClampNeg)]) (kX4_widest l D cA T h X (xs (i + 1).toNatClampNeg) hzX) (v_law_main cA h g X R) gL_law_X4_widest rfl ⟨rfl, rfl⟩ ⟨Nat.le_of_ble_eq_true rfl, Nat.le_of_ble_eq_true rfl⟩ ⟨Nat.le_of_ble_eq_true rfl, Nat.le_of_ble_eq_true rfl⟩ rfl (Nat.le_of_ble_eq_true rfl) hdL_X4_widest 0 rfl rfl rfl dL_law_551 (fun z ez hzz => ?_)
  refine g_ev (t2 := ()) rfl ?_
  refine g_conv (ws2 := mainW cA h z.2 ++ modW cA g R) rfl ?_
  refine g_aload_n C (pc := 554) dL_law_554 1 rfl ?_
  refine g_aload_n C (pc := 555) dL_law_555 3 rfl ?_
  refine g_iload_n C (pc := 556) dL_law_556 0 rfl ?_
  refine g_iconst C (pc := 557) dL_law_557 cI_1 ?_
  refine g_iadd C (pc := 558) dL_law_558 ?_
  refine g_sld C (pc := 559) hX0 hbl hbA h1 dL_law_559 ?_
  refine g_ev (t2 := nm (xX5_widest R (xs (i + 1).toNatClampNeg)) (fun _ => ())) rfl ?_
  refine g_Vei C (pc := 560) (As := [.int (xs (i + 1).toNatClampNeg)]) (kX5_widest l D cA T g R (xs (i + 1).toNatClampNeg) hzR) (v_law_mod cA h g z.2 R) gL_law_X5_widest rfl ⟨rfl, rfl⟩ ⟨Nat.le_of_ble_eq_true rfl, Nat.le_of_ble_eq_true rfl⟩ ⟨Nat.le_of_ble_eq_true rfl, Nat.le_of_ble_eq_true rfl⟩ rfl (Nat.le_of_ble_eq_true rfl) hdL_X5_widest 0 rfl rfl rfl dL_law_560 (fun y ey hzy => ?_)
  refine g_ev (t2 := ()) rfl ?_
  refine g_conv (ws2 := mainW cA h z.2 ++ modW cA g y.2) rfl ?_
  have o := C_widest hr hm ez ey
  refine g_icmp_eq0 C (pc := 563) 1157 dL_law_563 (by decide) (fun hc => ?_) (fun hc => absurd o.1 hc)
  exact K z.2 y.2 o.2 hzz hzy
set_option maxHeartbeats 4000000 in
theorem law_c14 {p : Program} {l : Launch} {e : Env} {s : State} {m : MethodId} {b : Nat} {below : List Frame} {meth : Method} {c : Code} {D : va_G} {cA : ClassId} {T : Nat × Nat × Nat} {A : Nat → Prop} {Q : State → Prop} {Ln : Nat} {xs : Nat → Int32} {h g : Nat → Nat} {X R : St} {i : Int32} {TT : Nat} (C : Cx p s m #[.ref b] meth c D cA T A cL_law 4 RL wsL_law ret) (hX0 : va_X b Ln xs s s.heap) (hbl : b < s.heap.size) (hbA : ¬ A b) (h1 : vp_in (i + 1) Ln) (h2 : vp_in (i + 2) Ln) (h3 : vp_in (i + 3) Ln) (h4 : vp_in (i + 4) Ln) (hr : REL TT X R) (hzX : Zmain X) (hzR : Zmod R) (hT : TT ≤ 1000000) (K : ∀ X2 R2 : St, REL (TT + 3000) X2 R2 → Zmain X2 → Zmod R2 → G p l e room_1 s m #[.ref b] below meth c 66 1618 D A Q 4 () () (mainW cA h X2 ++ modW cA g R2) 1157 [(3, .int i), (2, .ref (g 0)), (1, .ref (h 0)), (0, .ref b)] []) : G p l e room_1 s m #[.ref b] below meth c 66 1618 D A Q 4 () () (mainW cA h X ++ modW cA g R) 568 [(3, .int i), (2, .ref (g 0)), (1, .ref (h 0)), (0, .ref b)] [] := by
  have hm := mh_z hzX
  refine g_aload_n C (pc := 568) dL_law_568 2 rfl ?_
  refine g_aload_n C (pc := 569) dL_law_569 3 rfl ?_
  refine g_iload_n C (pc := 570) dL_law_570 0 rfl ?_
  refine g_iconst C (pc := 571) dL_law_571 cI_1 ?_
  refine g_iadd C (pc := 572) dL_law_572 ?_
  refine g_sld C (pc := 573) hX0 hbl hbA h1 dL_law_573 ?_
  refine g_ev (t2 := nm (xX4_lifts X (xs (i + 1).toNatClampNeg)) (fun _ => ())) rfl ?_
  refine g_Vei C (pc := 574) (As := [.int (xs (i + 1).toNatClampNeg)]) (kX4_lifts l D cA T h X (xs (i + 1).toNatClampNeg) hzX) (v_law_main cA h g X R) gL_law_X4_lifts rfl ⟨rfl, rfl⟩ ⟨Nat.le_of_ble_eq_true rfl, Nat.le_of_ble_eq_true rfl⟩ ⟨Nat.le_of_ble_eq_true rfl, Nat.le_of_ble_eq_true rfl⟩ rfl (Nat.le_of_ble_eq_true rfl) hdL_X4_lifts 0 rfl rfl rfl dL_law_574 (fun z ez hzz => ?_)
  refine g_ev (t2 := ()) rfl ?_
  refine g_conv (ws2 := mainW cA h z.2 ++ modW cA g R) rfl ?_
  refine g_aload_n C (pc := 577) dL_law_577 1 rfl ?_
  refine g_aload_n C (pc := 578) dL_law_578 3 rfl ?_
  refine g_iload_n C (pc := 579) dL_law_579 0 rfl ?_
  refine g_iconst C (pc := 580) dL_law_580 cI_1 ?_
  refine g_iadd C (pc := 581) dL_law_581 ?_
  refine g_sld C (pc := 582) hX0 hbl hbA h1 dL_law_582 ?_
  refine g_ev (t2 := nm (xX5_lifts R (xs (i + 1).toNatClampNeg)) (fun _ => ())) rfl ?_
  refine g_Vei C (pc := 583) (As := [.int (xs (i + 1).toNatClampNeg)]) (kX5_lifts l D cA T g R (xs (i + 1).toNatClampNeg) hzR) (v_law_mod cA h g z.2 R) gL_law_X5_lifts rfl ⟨rfl, rfl⟩ ⟨Nat.le_of_ble_eq_true rfl, Nat.le_of_ble_eq_true rfl⟩ ⟨Nat.le_of_ble_eq_true rfl, Nat.le_of_ble_eq_true rfl⟩ rfl (Nat.le_of_ble_eq_true rfl) hdL_X5_lifts 0 rfl rfl rfl dL_law_583 (fun y ey hzy => ?_)
  refine g_ev (t2 := ()) rfl ?_
  refine g_conv (ws2 := mainW cA h z.2 ++ modW cA g y.2) rfl ?_
  have o := C_lifts hr hm ez ey
  refine g_icmp_eq0 C (pc := 586) 1157 dL_law_586 (by decide) (fun hc => ?_) (fun hc => absurd o.1 hc)
  exact K z.2 y.2 o.2 hzz hzy
set_option maxHeartbeats 4000000 in
theorem law_c15 {p : Program} {l : Launch} {e : Env} {s : State} {m : MethodId} {b : Nat} {below : List Frame} {meth : Method} {c : Code} {D : va_G} {cA : ClassId} {T : Nat × Nat × Nat} {A : Nat → Prop} {Q : State → Prop} {Ln : Nat} {xs : Nat → Int32} {h g : Nat → Nat} {X R : St} {i : Int32} {TT : Nat} (C : Cx p s m #[.ref b] meth c D cA T A cL_law 4 RL wsL_law ret) (hX0 : va_X b Ln xs s s.heap) (hbl : b < s.heap.size) (hbA : ¬ A b) (h1 : vp_in (i + 1) Ln) (h2 : vp_in (i + 2) Ln) (h3 : vp_in (i + 3) Ln) (h4 : vp_in (i + 4) Ln) (hr : REL TT X R) (hzX : Zmain X) (hzR : Zmod R) (hT : TT ≤ 1000000) (K : ∀ X2 R2 : St, REL (TT + 3000) X2 R2 → Zmain X2 → Zmod R2 → G p l e room_1 s m #[.ref b] below meth c 66 1618 D A Q 4 () () (mainW cA h X2 ++ modW cA g R2) 1157 [(3, .int i), (2, .ref (g 0)), (1, .ref (h 0)), (0, .ref b)] []) : G p l e room_1 s m #[.ref b] below meth c 66 1618 D A Q 4 () () (mainW cA h X ++ modW cA g R) 591 [(3, .int i), (2, .ref (g 0)), (1, .ref (h 0)), (0, .ref b)] [] := by
  have hm := mh_z hzX
  refine g_aload_n C (pc := 591) dL_law_591 2 rfl ?_
  refine g_ev (t2 := nm (xX4_under X) (fun _ => ())) rfl ?_
  refine g_Vei C (pc := 592) (As := []) (kX4_under l D cA T h X hzX) (v_law_main cA h g X R) gL_law_X4_under rfl ⟨rfl, rfl⟩ ⟨Nat.le_of_ble_eq_true rfl, Nat.le_of_ble_eq_true rfl⟩ ⟨Nat.le_of_ble_eq_true rfl, Nat.le_of_ble_eq_true rfl⟩ rfl (Nat.le_of_ble_eq_true rfl) hdL_X4_under 0 rfl rfl rfl dL_law_592 (fun z ez hzz => ?_)
  refine g_ev (t2 := ()) rfl ?_
  refine g_conv (ws2 := mainW cA h z.2 ++ modW cA g R) rfl ?_
  refine g_aload_n C (pc := 595) dL_law_595 1 rfl ?_
  refine g_ev (t2 := nm (xX5_under R) (fun _ => ())) rfl ?_
  refine g_Vei C (pc := 596) (As := []) (kX5_under l D cA T g R hzR) (v_law_mod cA h g z.2 R) gL_law_X5_under rfl ⟨rfl, rfl⟩ ⟨Nat.le_of_ble_eq_true rfl, Nat.le_of_ble_eq_true rfl⟩ ⟨Nat.le_of_ble_eq_true rfl, Nat.le_of_ble_eq_true rfl⟩ rfl (Nat.le_of_ble_eq_true rfl) hdL_X5_under 0 rfl rfl rfl dL_law_596 (fun y ey hzy => ?_)
  refine g_ev (t2 := ()) rfl ?_
  refine g_conv (ws2 := mainW cA h z.2 ++ modW cA g y.2) rfl ?_
  have o := C_under hr hm ez ey
  refine g_icmp_eq0 C (pc := 599) 1157 dL_law_599 (by decide) (fun hc => ?_) (fun hc => absurd o.1 hc)
  exact K z.2 y.2 o.2 hzz hzy
set_option maxHeartbeats 4000000 in
theorem law_c16 {p : Program} {l : Launch} {e : Env} {s : State} {m : MethodId} {b : Nat} {below : List Frame} {meth : Method} {c : Code} {D : va_G} {cA : ClassId} {T : Nat × Nat × Nat} {A : Nat → Prop} {Q : State → Prop} {Ln : Nat} {xs : Nat → Int32} {h g : Nat → Nat} {X R : St} {i : Int32} {TT : Nat} (C : Cx p s m #[.ref b] meth c D cA T A cL_law 4 RL wsL_law ret) (hX0 : va_X b Ln xs s s.heap) (hbl : b < s.heap.size) (hbA : ¬ A b) (h1 : vp_in (i + 1) Ln) (h2 : vp_in (i + 2) Ln) (h3 : vp_in (i + 3) Ln) (h4 : vp_in (i + 4) Ln) (hr : REL TT X R) (hzX : Zmain X) (hzR : Zmod R) (hT : TT ≤ 1000000) (K : ∀ X2 R2 : St, REL (TT + 3000) X2 R2 → Zmain X2 → Zmod R2 → G p l e room_1 s m #[.ref b] below meth c 66 1618 D A Q 4 () () (mainW cA h X2 ++ modW cA g R2) 1157 [(3, .int i), (2, .ref (g 0)), (1, .ref (h 0)), (0, .ref b)] []) : G p l e room_1 s m #[.ref b] below meth c 66 1618 D A Q 4 () () (mainW cA h X ++ modW cA g R) 604 [(3, .int i), (2, .ref (g 0)), (1, .ref (h 0)), (0, .ref b)] [] := by
  have hm := mh_z hzX
  refine g_aload_n C (pc := 604) dL_law_604 2 rfl ?_
  refine g_aload_n C (pc := 605) dL_law_605 3 rfl ?_
  refine g_iload_n C (pc := 606) dL_law_606 0 rfl ?_
  refine g_iconst C (pc := 607) dL_law_607 cI_1 ?_
  refine g_iadd C (pc := 608) dL_law_608 ?_
  refine g_sld C (pc := 609) hX0 hbl hbA h1 dL_law_609 ?_
  refine g_ev (t2 := nm (xX4_without X (xs (i + 1).toNatClampNeg)) (fun _ => ())) rfl ?_
  refine g_Vei C (pc := 610) (As := [.int (xs (i + 1).toNatClampNeg)]) (kX4_without l D cA T h X (xs (i + 1).toNatClampNeg) hzX) (v_law_main cA h g X R) gL_law_X4_without rfl ⟨rfl, rfl⟩ ⟨Nat.le_of_ble_eq_true rfl, Nat.le_of_ble_eq_true rfl⟩ ⟨Nat.le_of_ble_eq_true rfl, Nat.le_of_ble_eq_true rfl⟩ rfl (Nat.le_of_ble_eq_true rfl) hdL_X4_without 0 rfl rfl rfl dL_law_610 (fun z ez hzz => ?_)
  refine g_ev (t2 := ()) rfl ?_
  refine g_conv (ws2 := mainW cA h z.2 ++ modW cA g R) rfl ?_
  refine g_aload_n C (pc := 613) dL_law_613 1 rfl ?_
  refine g_aload_n C (pc := 614) dL_law_614 3 rfl ?_
  refine g_iload_n C (pc := 615) dL_law_615 0 rfl ?_
  refine g_iconst C (pc := 616) dL_law_616 cI_1 ?_
  refine g_iadd C (pc := 617) dL_law_617 ?_
  refine g_sld C (pc := 618) hX0 hbl hbA h1 dL_law_618 ?_
  refine g_ev (t2 := nm (xX5_without R (xs (i + 1).toNatClampNeg)) (fun _ => ())) rfl ?_
  refine g_Vei C (pc := 619) (As := [.int (xs (i + 1).toNatClampNeg)]) (kX5_without l D cA T g R (xs (i + 1).toNatClampNeg) hzR) (v_law_mod cA h g z.2 R) gL_law_X5_without rfl ⟨rfl, rfl⟩ ⟨Nat.le_of_ble_eq_true rfl, Nat.le_of_ble_eq_true rfl⟩ ⟨Nat.le_of_ble_eq_true rfl, Nat.le_of_ble_eq_true rfl⟩ rfl (Nat.le_of_ble_eq_true rfl) hdL_X5_without 0 rfl rfl rfl dL_law_619 (fun y ey hzy => ?_)
  refine g_ev (t2 := ()) rfl ?_
  refine g_conv (ws2 := mainW cA h z.2 ++ modW cA g y.2) rfl ?_
  have o := C_without hr hm ez ey
  refine g_icmp_eq0 C (pc := 622) 1157 dL_law_622 (by decide) (fun hc => ?_) (fun hc => absurd o.1 hc)
  exact K z.2 y.2 o.2 hzz hzy
set_option maxHeartbeats 4000000 in
theorem law_c17 {p : Program} {l : Launch} {e : Env} {s : State} {m : MethodId} {b : Nat} {below : List Frame} {meth : Method} {c : Code} {D : va_G} {cA : ClassId} {T : Nat × Nat × Nat} {A : Nat → Prop} {Q : State → Prop} {Ln : Nat} {xs : Nat → Int32} {h g : Nat → Nat} {X R : St} {i : Int32} {TT : Nat} (C : Cx p s m #[.ref b] meth c D cA T A cL_law 4 RL wsL_law ret) (hX0 : va_X b Ln xs s s.heap) (hbl : b < s.heap.size) (hbA : ¬ A b) (h1 : vp_in (i + 1) Ln) (h2 : vp_in (i + 2) Ln) (h3 : vp_in (i + 3) Ln) (h4 : vp_in (i + 4) Ln) (hr : REL TT X R) (hzX : Zmain X) (hzR : Zmod R) (hT : TT ≤ 1000000) (K : ∀ X2 R2 : St, REL (TT + 3000) X2 R2 → Zmain X2 → Zmod R2 → G p l e room_1 s m #[.ref b] below meth c 66 1618 D A Q 4 () () (mainW cA h X2 ++ modW cA g R2) 1157 [(3, .int i), (2, .ref (g 0)), (1, .ref (h 0)), (0, .ref b)] []) : G p l e room_1 s m #[.ref b] below meth c 66 1618 D A Q 4 () () (mainW cA h X ++ modW cA g R) 627 [(3, .int i), (2, .ref (g 0)), (1, .ref (h 0)), (0, .ref b)] [] := by
  have hm := mh_z hzX
  refine g_aload_n C (pc := 627) dL_law_627 2 rfl ?_
  refine g_aload_n C (pc := 628) dL_law_628 3 rfl ?_
  refine g_iload_n C (pc := 629) dL_law_629 0 rfl ?_
  refine g_iconst C (pc := 630) dL_law_630 cI_1 ?_
  refine g_iadd C (pc := 631) dL_law_631 ?_
  refine g_sld C (pc := 632) hX0 hbl hbA h1 dL_law_632 ?_
  refine g_aload_n C (pc := 633) dL_law_633 3 rfl ?_
  refine g_iload_n C (pc := 634) dL_law_634 0 rfl ?_
  refine g_iconst C (pc := 635) dL_law_635 cI_2 ?_
  refine g_iadd C (pc := 636) dL_law_636 ?_
  refine g_sld C (pc := 637) hX0 hbl hbA h2 dL_law_637 ?_
  refine g_ev (t2 := nm (xX4_larger X (xs (i + 1).toNatClampNeg) (xs (i + 2).toNatClampNeg)) (fun _ => ())) rfl ?_
  refine g_Vei C (pc := 638) (As := [.int (xs (i + 1).toNatClampNeg), .int (xs (i + 2).toNatClampNeg)]) (kX4_larger l D cA T h X (xs (i + 1).toNatClampNeg) (xs (i + 2).toNatClampNeg) hzX) (v_law_main cA h g X R) gL_law_X4_larger rfl ⟨rfl, rfl⟩ ⟨Nat.le_of_ble_eq_true rfl, Nat.le_of_ble_eq_true rfl⟩ ⟨Nat.le_of_ble_eq_true rfl, Nat.le_of_ble_eq_true rfl⟩ rfl (Nat.le_of_ble_eq_true rfl) hdL_X4_larger 0 rfl rfl rfl dL_law_638 (fun z ez hzz => ?_)
  refine g_ev (t2 := ()) rfl ?_
  refine g_conv (ws2 := mainW cA h z.2 ++ modW cA g R) rfl ?_
  refine g_aload_n C (pc := 641) dL_law_641 1 rfl ?_
  refine g_aload_n C (pc := 642) dL_law_642 3 rfl ?_
  refine g_iload_n C (pc := 643) dL_law_643 0 rfl ?_
  refine g_iconst C (pc := 644) dL_law_644 cI_1 ?_
  refine g_iadd C (pc := 645) dL_law_645 ?_
  refine g_sld C (pc := 646) hX0 hbl hbA h1 dL_law_646 ?_
  refine g_aload_n C (pc := 647) dL_law_647 3 rfl ?_
  refine g_iload_n C (pc := 648) dL_law_648 0 rfl ?_
  refine g_iconst C (pc := 649) dL_law_649 cI_2 ?_
  refine g_iadd C (pc := 650) dL_law_650 ?_
  refine g_sld C (pc := 651) hX0 hbl hbA h2 dL_law_651 ?_
  refine g_ev (t2 := nm (xX5_larger R (xs (i + 1).toNatClampNeg) (xs (i + 2).toNatClampNeg)) (fun _ => ())) rfl ?_
  refine g_Vei C (pc := 652) (As := [.int (xs (i + 1).toNatClampNeg), .int (xs (i + 2).toNatClampNeg)]) (kX5_larger l D cA T g R (xs (i + 1).toNatClampNeg) (xs (i + 2).toNatClampNeg) hzR) (v_law_mod cA h g z.2 R) gL_law_X5_larger rfl ⟨rfl, rfl⟩ ⟨Nat.le_of_ble_eq_true rfl, Nat.le_of_ble_eq_true rfl⟩ ⟨Nat.le_of_ble_eq_true rfl, Nat.le_of_ble_eq_true rfl⟩ rfl (Nat.le_of_ble_eq_true rfl) hdL_X5_larger 0 rfl rfl rfl dL_law_652 (fun y ey hzy => ?_)
  refine g_ev (t2 := ()) rfl ?_
  refine g_conv (ws2 := mainW cA h z.2 ++ modW cA g y.2) rfl ?_
  have o := C_larger hr hm ez ey
  refine g_icmp_eq0 C (pc := 655) 1157 dL_law_655 (by decide) (fun hc => ?_) (fun hc => absurd o.1 hc)
  exact K z.2 y.2 o.2 hzz hzy
set_option maxHeartbeats 4000000 in
theorem law_c18 {p : Program} {l : Launch} {e : Env} {s : State} {m : MethodId} {b : Nat} {below : List Frame} {meth : Method} {c : Code} {D : va_G} {cA : ClassId} {T : Nat × Nat × Nat} {A : Nat → Prop} {Q : State → Prop} {Ln : Nat} {xs : Nat → Int32} {h g : Nat → Nat} {X R : St} {i : Int32} {TT : Nat} (C : Cx p s m #[.ref b] meth c D cA T A cL_law 4 RL wsL_law ret) (hX0 : va_X b Ln xs s s.heap) (hbl : b < s.heap.size) (hbA : ¬ A b) (h1 : vp_in (i + 1) Ln) (h2 : vp_in (i + 2) Ln) (h3 : vp_in (i + 3) Ln) (h4 : vp_in (i + 4) Ln) (hr : REL TT X R) (hzX : Zmain X) (hzR : Zmod R) (hT : TT ≤ 1000000) (K : ∀ X2 R2 : St, REL (TT + 3000) X2 R2 → Zmain X2 → Zmod R2 → G p l e room_1 s m #[.ref b] below meth c 66 1618 D A Q 4 () () (mainW cA h X2 ++ modW cA g R2) 1157 [(3, .int i), (2, .ref (g 0)), (1, .ref (h 0)), (0, .ref b)] []) : G p l e room_1 s m #[.ref b] below meth c 66 1618 D A Q 4 () () (mainW cA h X ++ modW cA g R) 660 [(3, .int i), (2, .ref (g 0)), (1, .ref (h 0)), (0, .ref b)] [] := by
  have hm := mh_z hzX
  refine g_aload_n C (pc := 660) dL_law_660 2 rfl ?_
  refine g_aload_n C (pc := 661) dL_law_661 3 rfl ?_
  refine g_iload_n C (pc := 662) dL_law_662 0 rfl ?_
  refine g_iconst C (pc := 663) dL_law_663 cI_1 ?_
  refine g_iadd C (pc := 664) dL_law_664 ?_
  refine g_sld C (pc := 665) hX0 hbl hbA h1 dL_law_665 ?_
  refine g_ev (t2 := nm (xX4_together X (xs (i + 1).toNatClampNeg)) (fun _ => ())) rfl ?_
  refine g_Vei C (pc := 666) (As := [.int (xs (i + 1).toNatClampNeg)]) (kX4_together l D cA T h X (xs (i + 1).toNatClampNeg) hzX) (v_law_main cA h g X R) gL_law_X4_together rfl ⟨rfl, rfl⟩ ⟨Nat.le_of_ble_eq_true rfl, Nat.le_of_ble_eq_true rfl⟩ ⟨Nat.le_of_ble_eq_true rfl, Nat.le_of_ble_eq_true rfl⟩ rfl (Nat.le_of_ble_eq_true rfl) hdL_X4_together 0 rfl rfl rfl dL_law_666 (fun z ez hzz => ?_)
  refine g_ev (t2 := ()) rfl ?_
  refine g_conv (ws2 := mainW cA h z.2 ++ modW cA g R) rfl ?_
  refine g_aload_n C (pc := 669) dL_law_669 1 rfl ?_
  refine g_aload_n C (pc := 670) dL_law_670 3 rfl ?_
  refine g_iload_n C (pc := 671) dL_law_671 0 rfl ?_
  refine g_iconst C (pc := 672) dL_law_672 cI_1 ?_
  refine g_iadd C (pc := 673) dL_law_673 ?_
  refine g_sld C (pc := 674) hX0 hbl hbA h1 dL_law_674 ?_
  refine g_ev (t2 := nm (xX5_together R (xs (i + 1).toNatClampNeg)) (fun _ => ())) rfl ?_
  refine g_Vei C (pc := 675) (As := [.int (xs (i + 1).toNatClampNeg)]) (kX5_together l D cA T g R (xs (i + 1).toNatClampNeg) hzR) (v_law_mod cA h g z.2 R) gL_law_X5_together rfl ⟨rfl, rfl⟩ ⟨Nat.le_of_ble_eq_true rfl, Nat.le_of_ble_eq_true rfl⟩ ⟨Nat.le_of_ble_eq_true rfl, Nat.le_of_ble_eq_true rfl⟩ rfl (Nat.le_of_ble_eq_true rfl) hdL_X5_together 0 rfl rfl rfl dL_law_675 (fun y ey hzy => ?_)
  refine g_ev (t2 := ()) rfl ?_
  refine g_conv (ws2 := mainW cA h z.2 ++ modW cA g y.2) rfl ?_
  have o := C_together hr hzX ez ey
  refine g_icmp_eq0 C (pc := 678) 1157 dL_law_678 (by decide) (fun hc => ?_) (fun hc => absurd o.1 hc)
  exact K z.2 y.2 o.2 hzz hzy
set_option maxHeartbeats 4000000 in
theorem law_c19 {p : Program} {l : Launch} {e : Env} {s : State} {m : MethodId} {b : Nat} {below : List Frame} {meth : Method} {c : Code} {D : va_G} {cA : ClassId} {T : Nat × Nat × Nat} {A : Nat → Prop} {Q : State → Prop} {Ln : Nat} {xs : Nat → Int32} {h g : Nat → Nat} {X R : St} {i : Int32} {TT : Nat} (C : Cx p s m #[.ref b] meth c D cA T A cL_law 4 RL wsL_law ret) (hX0 : va_X b Ln xs s s.heap) (hbl : b < s.heap.size) (hbA : ¬ A b) (h1 : vp_in (i + 1) Ln) (h2 : vp_in (i + 2) Ln) (h3 : vp_in (i + 3) Ln) (h4 : vp_in (i + 4) Ln) (hr : REL TT X R) (hzX : Zmain X) (hzR : Zmod R) (hT : TT ≤ 1000000) (K : ∀ X2 R2 : St, REL (TT + 3000) X2 R2 → Zmain X2 → Zmod R2 → G p l e room_1 s m #[.ref b] below meth c 66 1618 D A Q 4 () () (mainW cA h X2 ++ modW cA g R2) 1157 [(3, .int i), (2, .ref (g 0)), (1, .ref (h 0)), (0, .ref b)] []) : G p l e room_1 s m #[.ref b] below meth c 66 1618 D A Q 4 () () (mainW cA h X ++ modW cA g R) 683 [(3, .int i), (2, .ref (g 0)), (1, .ref (h 0)), (0, .ref b)] [] := by
  have hm := mh_z hzX
  refine g_aload_n C (pc := 683) dL_law_683 2 rfl ?_
  refine g_aload_n C (pc := 684) dL_law_684 3 rfl ?_
  refine g_iload_n C (pc := 685) dL_law_685 0 rfl ?_
  refine g_iconst C (pc := 686) dL_law_686 cI_1 ?_
  refine g_iadd C (pc := 687) dL_law_687 ?_
  refine g_sld C (pc := 688) hX0 hbl hbA h1 dL_law_688 ?_
  refine g_ev (t2 := nm (xX4_drinks X (xs (i + 1).toNatClampNeg)) (fun _ => ())) rfl ?_
  refine g_Vei C (pc := 689) (As := [.int (xs (i + 1).toNatClampNeg)]) (kX4_drinks l D cA T h X (xs (i + 1).toNatClampNeg) hzX) (v_law_main cA h g X R) gL_law_X4_drinks rfl ⟨rfl, rfl⟩ ⟨Nat.le_of_ble_eq_true rfl, Nat.le_of_ble_eq_true rfl⟩ ⟨Nat.le_of_ble_eq_true rfl, Nat.le_of_ble_eq_true rfl⟩ rfl (Nat.le_of_ble_eq_true rfl) hdL_X4_drinks 0 rfl rfl rfl dL_law_689 (fun z ez hzz => ?_)
  refine g_ev (t2 := ()) rfl ?_
  refine g_conv (ws2 := mainW cA h z.2 ++ modW cA g R) rfl ?_
  refine g_aload_n C (pc := 692) dL_law_692 1 rfl ?_
  refine g_aload_n C (pc := 693) dL_law_693 3 rfl ?_
  refine g_iload_n C (pc := 694) dL_law_694 0 rfl ?_
  refine g_iconst C (pc := 695) dL_law_695 cI_1 ?_
  refine g_iadd C (pc := 696) dL_law_696 ?_
  refine g_sld C (pc := 697) hX0 hbl hbA h1 dL_law_697 ?_
  refine g_ev (t2 := nm (xX5_drinks R (xs (i + 1).toNatClampNeg)) (fun _ => ())) rfl ?_
  refine g_Vei C (pc := 698) (As := [.int (xs (i + 1).toNatClampNeg)]) (kX5_drinks l D cA T g R (xs (i + 1).toNatClampNeg) hzR) (v_law_mod cA h g z.2 R) gL_law_X5_drinks rfl ⟨rfl, rfl⟩ ⟨Nat.le_of_ble_eq_true rfl, Nat.le_of_ble_eq_true rfl⟩ ⟨Nat.le_of_ble_eq_true rfl, Nat.le_of_ble_eq_true rfl⟩ rfl (Nat.le_of_ble_eq_true rfl) hdL_X5_drinks 0 rfl rfl rfl dL_law_698 (fun y ey hzy => ?_)
  refine g_ev (t2 := ()) rfl ?_
  refine g_conv (ws2 := mainW cA h z.2 ++ modW cA g y.2) rfl ?_
  have o := C_drinks hr ez ey
  refine g_icmp_eq0 C (pc := 701) 1157 dL_law_701 (by decide) (fun hc => ?_) (fun hc => absurd o.1 hc)
  exact K z.2 y.2 o.2 hzz hzy
