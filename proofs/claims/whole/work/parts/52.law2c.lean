set_option maxHeartbeats 4000000 in
theorem law_c20 {p : Program} {l : Launch} {e : Env} {s : State} {m : MethodId} {b : Nat} {below : List Frame} {meth : Method} {c : Code} {D : va_G} {cA : ClassId} {T : Nat × Nat × Nat} {A : Nat → Prop} {Q : State → Prop} {Ln : Nat} {xs : Nat → Int32} {h g : Nat → Nat} {X R : St} {i : Int32} {TT : Nat} (C : Cx p s m #[.ref b] meth c D cA T A cL_law 4 RL wsL_law ret) (hX0 : va_X b Ln xs s s.heap) (hbl : b < s.heap.size) (hbA : ¬ A b) (h1 : vp_in (i + 1) Ln) (h2 : vp_in (i + 2) Ln) (h3 : vp_in (i + 3) Ln) (h4 : vp_in (i + 4) Ln) (hr : REL TT X R) (hzX : Zmain X) (hzR : Zmod R) (hT : TT ≤ 1000000) (K : ∀ X2 R2 : St, REL (TT + 3000) X2 R2 → Zmain X2 → Zmod R2 → G p l e room_1 s m #[.ref b] below meth c 66 1618 D A Q 4 () () (mainW cA h X2 ++ modW cA g R2) 1157 [(3, .int i), (2, .ref (g 0)), (1, .ref (h 0)), (0, .ref b)] []) : G p l e room_1 s m #[.ref b] below meth c 66 1618 D A Q 4 () () (mainW cA h X ++ modW cA g R) 706 [(3, .int i), (2, .ref (g 0)), (1, .ref (h 0)), (0, .ref b)] [] := by
  have hm := mh_z hzX
  refine g_aload_n C (pc := 706) dL_law_706 2 rfl ?_
  refine g_aload_n C (pc := 707) dL_law_707 3 rfl ?_
  refine g_iload_n C (pc := 708) dL_law_708 0 rfl ?_
  refine g_iconst C (pc := 709) dL_law_709 cI_1 ?_
  refine g_iadd C (pc := 710) dL_law_710 ?_
  refine g_sld C (pc := 711) hX0 hbl hbA h1 dL_law_711 ?_
  refine g_aload_n C (pc := 712) dL_law_712 3 rfl ?_
  refine g_iload_n C (pc := 713) dL_law_713 0 rfl ?_
  refine g_iconst C (pc := 714) dL_law_714 cI_2 ?_
  refine g_iadd C (pc := 715) dL_law_715 ?_
  refine g_sld C (pc := 716) hX0 hbl hbA h2 dL_law_716 ?_
  refine g_aload_n C (pc := 717) dL_law_717 3 rfl ?_
  refine g_iload_n C (pc := 718) dL_law_718 0 rfl ?_
  refine g_iconst C (pc := 719) dL_law_719 cI_3 ?_
  refine g_iadd C (pc := 720) dL_law_720 ?_
  refine g_sld C (pc := 721) hX0 hbl hbA h3 dL_law_721 ?_
  refine g_ev (t2 := nm (xX4_goes X (xs (i + 1).toNatClampNeg) (xs (i + 2).toNatClampNeg) (xs (i + 3).toNatClampNeg)) (fun _ => ())) rfl ?_
  refine g_Vei C (pc := 722) (As := [.int (xs (i + 1).toNatClampNeg), .int (xs (i + 2).toNatClampNeg), .int (xs (i + 3).toNatClampNeg)]) (kX4_goes l D cA T h X (xs (i + 1).toNatClampNeg) (xs (i + 2).toNatClampNeg) (xs (i + 3).toNatClampNeg) hzX) (v_law_main cA h g X R) gL_law_X4_goes rfl ⟨rfl, rfl⟩ ⟨Nat.le_of_ble_eq_true rfl, Nat.le_of_ble_eq_true rfl⟩ ⟨Nat.le_of_ble_eq_true rfl, Nat.le_of_ble_eq_true rfl⟩ rfl (Nat.le_of_ble_eq_true rfl) hdL_X4_goes 0 rfl rfl rfl dL_law_722 (fun z ez hzz => ?_)
  refine g_ev (t2 := ()) rfl ?_
  refine g_conv (ws2 := mainW cA h z.2 ++ modW cA g R) rfl ?_
  refine g_aload_n C (pc := 725) dL_law_725 1 rfl ?_
  refine g_aload_n C (pc := 726) dL_law_726 3 rfl ?_
  refine g_iload_n C (pc := 727) dL_law_727 0 rfl ?_
  refine g_iconst C (pc := 728) dL_law_728 cI_1 ?_
  refine g_iadd C (pc := 729) dL_law_729 ?_
  refine g_sld C (pc := 730) hX0 hbl hbA h1 dL_law_730 ?_
  refine g_aload_n C (pc := 731) dL_law_731 3 rfl ?_
  refine g_iload_n C (pc := 732) dL_law_732 0 rfl ?_
  refine g_iconst C (pc := 733) dL_law_733 cI_2 ?_
  refine g_iadd C (pc := 734) dL_law_734 ?_
  refine g_sld C (pc := 735) hX0 hbl hbA h2 dL_law_735 ?_
  refine g_aload_n C (pc := 736) dL_law_736 3 rfl ?_
  refine g_iload_n C (pc := 737) dL_law_737 0 rfl ?_
  refine g_iconst C (pc := 738) dL_law_738 cI_3 ?_
  refine g_iadd C (pc := 739) dL_law_739 ?_
  refine g_sld C (pc := 740) hX0 hbl hbA h3 dL_law_740 ?_
  refine g_ev (t2 := nm (xX5_goes R (xs (i + 1).toNatClampNeg) (xs (i + 2).toNatClampNeg) (xs (i + 3).toNatClampNeg)) (fun _ => ())) rfl ?_
  refine g_Vei C (pc := 741) (As := [.int (xs (i + 1).toNatClampNeg), .int (xs (i + 2).toNatClampNeg), .int (xs (i + 3).toNatClampNeg)]) (kX5_goes l D cA T g R (xs (i + 1).toNatClampNeg) (xs (i + 2).toNatClampNeg) (xs (i + 3).toNatClampNeg) hzR) (v_law_mod cA h g z.2 R) gL_law_X5_goes rfl ⟨rfl, rfl⟩ ⟨Nat.le_of_ble_eq_true rfl, Nat.le_of_ble_eq_true rfl⟩ ⟨Nat.le_of_ble_eq_true rfl, Nat.le_of_ble_eq_true rfl⟩ rfl (Nat.le_of_ble_eq_true rfl) hdL_X5_goes 0 rfl rfl rfl dL_law_741 (fun y ey hzy => ?_)
  refine g_ev (t2 := ()) rfl ?_
  refine g_conv (ws2 := mainW cA h z.2 ++ modW cA g y.2) rfl ?_
  have o := C_goes hr hm ez ey
  refine g_icmp_eq0 C (pc := 744) 1157 dL_law_744 (by decide) (fun hc => ?_) (fun hc => absurd o.1 hc)
  exact K z.2 y.2 o.2 hzz hzy
set_option maxHeartbeats 4000000 in
theorem law_c21 {p : Program} {l : Launch} {e : Env} {s : State} {m : MethodId} {b : Nat} {below : List Frame} {meth : Method} {c : Code} {D : va_G} {cA : ClassId} {T : Nat × Nat × Nat} {A : Nat → Prop} {Q : State → Prop} {Ln : Nat} {xs : Nat → Int32} {h g : Nat → Nat} {X R : St} {i : Int32} {TT : Nat} (C : Cx p s m #[.ref b] meth c D cA T A cL_law 4 RL wsL_law ret) (hX0 : va_X b Ln xs s s.heap) (hbl : b < s.heap.size) (hbA : ¬ A b) (h1 : vp_in (i + 1) Ln) (h2 : vp_in (i + 2) Ln) (h3 : vp_in (i + 3) Ln) (h4 : vp_in (i + 4) Ln) (hr : REL TT X R) (hzX : Zmain X) (hzR : Zmod R) (hT : TT ≤ 1000000) (K : ∀ X2 R2 : St, REL (TT + 3000) X2 R2 → Zmain X2 → Zmod R2 → G p l e room_1 s m #[.ref b] below meth c 66 1618 D A Q 4 () () (mainW cA h X2 ++ modW cA g R2) 1157 [(3, .int i), (2, .ref (g 0)), (1, .ref (h 0)), (0, .ref b)] []) : G p l e room_1 s m #[.ref b] below meth c 66 1618 D A Q 4 () () (mainW cA h X ++ modW cA g R) 749 [(3, .int i), (2, .ref (g 0)), (1, .ref (h 0)), (0, .ref b)] [] := by
  have hm := mh_z hzX
  refine g_aload_n C (pc := 749) dL_law_749 2 rfl ?_
  refine g_aload_n C (pc := 750) dL_law_750 3 rfl ?_
  refine g_iload_n C (pc := 751) dL_law_751 0 rfl ?_
  refine g_iconst C (pc := 752) dL_law_752 cI_1 ?_
  refine g_iadd C (pc := 753) dL_law_753 ?_
  refine g_sld C (pc := 754) hX0 hbl hbA h1 dL_law_754 ?_
  refine g_ev (t2 := nm (xX4_bestRoom X (xs (i + 1).toNatClampNeg)) (fun _ => ())) rfl ?_
  refine g_Vei C (pc := 755) (As := [.int (xs (i + 1).toNatClampNeg)]) (kX4_bestRoom l D cA T h X (xs (i + 1).toNatClampNeg) hzX) (v_law_main cA h g X R) gL_law_X4_bestRoom rfl ⟨rfl, rfl⟩ ⟨Nat.le_of_ble_eq_true rfl, Nat.le_of_ble_eq_true rfl⟩ ⟨Nat.le_of_ble_eq_true rfl, Nat.le_of_ble_eq_true rfl⟩ rfl (Nat.le_of_ble_eq_true rfl) hdL_X4_bestRoom 0 rfl rfl rfl dL_law_755 (fun z ez hzz => ?_)
  refine g_ev (t2 := ()) rfl ?_
  refine g_conv (ws2 := mainW cA h z.2 ++ modW cA g R) rfl ?_
  refine g_aload_n C (pc := 758) dL_law_758 1 rfl ?_
  refine g_aload_n C (pc := 759) dL_law_759 3 rfl ?_
  refine g_iload_n C (pc := 760) dL_law_760 0 rfl ?_
  refine g_iconst C (pc := 761) dL_law_761 cI_1 ?_
  refine g_iadd C (pc := 762) dL_law_762 ?_
  refine g_sld C (pc := 763) hX0 hbl hbA h1 dL_law_763 ?_
  refine g_ev (t2 := nm (xX5_bestRoom R (xs (i + 1).toNatClampNeg)) (fun _ => ())) rfl ?_
  refine g_Vei C (pc := 764) (As := [.int (xs (i + 1).toNatClampNeg)]) (kX5_bestRoom l D cA T g R (xs (i + 1).toNatClampNeg) hzR) (v_law_mod cA h g z.2 R) gL_law_X5_bestRoom rfl ⟨rfl, rfl⟩ ⟨Nat.le_of_ble_eq_true rfl, Nat.le_of_ble_eq_true rfl⟩ ⟨Nat.le_of_ble_eq_true rfl, Nat.le_of_ble_eq_true rfl⟩ rfl (Nat.le_of_ble_eq_true rfl) hdL_X5_bestRoom 0 rfl rfl rfl dL_law_764 (fun y ey hzy => ?_)
  refine g_ev (t2 := ()) rfl ?_
  refine g_conv (ws2 := mainW cA h z.2 ++ modW cA g y.2) rfl ?_
  have o := C_bestRoom hr hm ez ey
  refine g_icmp_eq0 C (pc := 767) 1157 dL_law_767 (by decide) (fun hc => ?_) (fun hc => absurd o.1 hc)
  exact K z.2 y.2 o.2 hzz hzy
set_option maxHeartbeats 4000000 in
theorem law_c22 {p : Program} {l : Launch} {e : Env} {s : State} {m : MethodId} {b : Nat} {below : List Frame} {meth : Method} {c : Code} {D : va_G} {cA : ClassId} {T : Nat × Nat × Nat} {A : Nat → Prop} {Q : State → Prop} {Ln : Nat} {xs : Nat → Int32} {h g : Nat → Nat} {X R : St} {i : Int32} {TT : Nat} (C : Cx p s m #[.ref b] meth c D cA T A cL_law 4 RL wsL_law ret) (hX0 : va_X b Ln xs s s.heap) (hbl : b < s.heap.size) (hbA : ¬ A b) (h1 : vp_in (i + 1) Ln) (h2 : vp_in (i + 2) Ln) (h3 : vp_in (i + 3) Ln) (h4 : vp_in (i + 4) Ln) (hr : REL TT X R) (hzX : Zmain X) (hzR : Zmod R) (hT : TT ≤ 1000000) (K : ∀ X2 R2 : St, REL (TT + 3000) X2 R2 → Zmain X2 → Zmod R2 → G p l e room_1 s m #[.ref b] below meth c 66 1618 D A Q 4 () () (mainW cA h X2 ++ modW cA g R2) 1157 [(3, .int i), (2, .ref (g 0)), (1, .ref (h 0)), (0, .ref b)] []) : G p l e room_1 s m #[.ref b] below meth c 66 1618 D A Q 4 () () (mainW cA h X ++ modW cA g R) 772 [(3, .int i), (2, .ref (g 0)), (1, .ref (h 0)), (0, .ref b)] [] := by
  have hm := mh_z hzX
  refine g_aload_n C (pc := 772) dL_law_772 2 rfl ?_
  refine g_aload_n C (pc := 773) dL_law_773 3 rfl ?_
  refine g_iload_n C (pc := 774) dL_law_774 0 rfl ?_
  refine g_iconst C (pc := 775) dL_law_775 cI_1 ?_
  refine g_iadd C (pc := 776) dL_law_776 ?_
  refine g_sld C (pc := 777) hX0 hbl hbA h1 dL_law_777 ?_
  refine g_ev (t2 := nm (xX4_latest X (xs (i + 1).toNatClampNeg)) (fun _ => ())) rfl ?_
  refine g_Vei C (pc := 778) (As := [.int (xs (i + 1).toNatClampNeg)]) (kX4_latest l D cA T h X (xs (i + 1).toNatClampNeg) hzX) (v_law_main cA h g X R) gL_law_X4_latest rfl ⟨rfl, rfl⟩ ⟨Nat.le_of_ble_eq_true rfl, Nat.le_of_ble_eq_true rfl⟩ ⟨Nat.le_of_ble_eq_true rfl, Nat.le_of_ble_eq_true rfl⟩ rfl (Nat.le_of_ble_eq_true rfl) hdL_X4_latest 0 rfl rfl rfl dL_law_778 (fun z ez hzz => ?_)
  refine g_ev (t2 := ()) rfl ?_
  refine g_conv (ws2 := mainW cA h z.2 ++ modW cA g R) rfl ?_
  refine g_aload_n C (pc := 781) dL_law_781 1 rfl ?_
  refine g_aload_n C (pc := 782) dL_law_782 3 rfl ?_
  refine g_iload_n C (pc := 783) dL_law_783 0 rfl ?_
  refine g_iconst C (pc := 784) dL_law_784 cI_1 ?_
  refine g_iadd C (pc := 785) dL_law_785 ?_
  refine g_sld C (pc := 786) hX0 hbl hbA h1 dL_law_786 ?_
  refine g_ev (t2 := nm (xX5_latest R (xs (i + 1).toNatClampNeg)) (fun _ => ())) rfl ?_
  refine g_Vei C (pc := 787) (As := [.int (xs (i + 1).toNatClampNeg)]) (kX5_latest l D cA T g R (xs (i + 1).toNatClampNeg) hzR) (v_law_mod cA h g z.2 R) gL_law_X5_latest rfl ⟨rfl, rfl⟩ ⟨Nat.le_of_ble_eq_true rfl, Nat.le_of_ble_eq_true rfl⟩ ⟨Nat.le_of_ble_eq_true rfl, Nat.le_of_ble_eq_true rfl⟩ rfl (Nat.le_of_ble_eq_true rfl) hdL_X5_latest 0 rfl rfl rfl dL_law_787 (fun y ey hzy => ?_)
  refine g_ev (t2 := ()) rfl ?_
  refine g_conv (ws2 := mainW cA h z.2 ++ modW cA g y.2) rfl ?_
  have o := C_latest hr hm ez ey
  refine g_icmp_eq0 C (pc := 790) 1157 dL_law_790 (by decide) (fun hc => ?_) (fun hc => absurd o.1 hc)
  exact K z.2 y.2 o.2 hzz hzy
set_option maxHeartbeats 4000000 in
theorem law_c23 {p : Program} {l : Launch} {e : Env} {s : State} {m : MethodId} {b : Nat} {below : List Frame} {meth : Method} {c : Code} {D : va_G} {cA : ClassId} {T : Nat × Nat × Nat} {A : Nat → Prop} {Q : State → Prop} {Ln : Nat} {xs : Nat → Int32} {h g : Nat → Nat} {X R : St} {i : Int32} {TT : Nat} (C : Cx p s m #[.ref b] meth c D cA T A cL_law 4 RL wsL_law ret) (hX0 : va_X b Ln xs s s.heap) (hbl : b < s.heap.size) (hbA : ¬ A b) (h1 : vp_in (i + 1) Ln) (h2 : vp_in (i + 2) Ln) (h3 : vp_in (i + 3) Ln) (h4 : vp_in (i + 4) Ln) (hr : REL TT X R) (hzX : Zmain X) (hzR : Zmod R) (hT : TT ≤ 1000000) (K : ∀ X2 R2 : St, REL (TT + 3000) X2 R2 → Zmain X2 → Zmod R2 → G p l e room_1 s m #[.ref b] below meth c 66 1618 D A Q 4 () () (mainW cA h X2 ++ modW cA g R2) 1157 [(3, .int i), (2, .ref (g 0)), (1, .ref (h 0)), (0, .ref b)] []) : G p l e room_1 s m #[.ref b] below meth c 66 1618 D A Q 4 () () (mainW cA h X ++ modW cA g R) 795 [(3, .int i), (2, .ref (g 0)), (1, .ref (h 0)), (0, .ref b)] [] := by
  have hm := mh_z hzX
  refine g_aload_n C (pc := 795) dL_law_795 2 rfl ?_
  refine g_aload_n C (pc := 796) dL_law_796 3 rfl ?_
  refine g_iload_n C (pc := 797) dL_law_797 0 rfl ?_
  refine g_iconst C (pc := 798) dL_law_798 cI_1 ?_
  refine g_iadd C (pc := 799) dL_law_799 ?_
  refine g_sld C (pc := 800) hX0 hbl hbA h1 dL_law_800 ?_
  refine g_ev (t2 := nm (xX4_dot X (xs (i + 1).toNatClampNeg)) (fun _ => ())) rfl ?_
  refine g_Vei C (pc := 801) (As := [.int (xs (i + 1).toNatClampNeg)]) (kX4_dot l D cA T h X (xs (i + 1).toNatClampNeg) hzX) (v_law_main cA h g X R) gL_law_X4_dot rfl ⟨rfl, rfl⟩ ⟨Nat.le_of_ble_eq_true rfl, Nat.le_of_ble_eq_true rfl⟩ ⟨Nat.le_of_ble_eq_true rfl, Nat.le_of_ble_eq_true rfl⟩ rfl (Nat.le_of_ble_eq_true rfl) hdL_X4_dot 0 rfl rfl rfl dL_law_801 (fun z ez hzz => ?_)
  refine g_ev (t2 := ()) rfl ?_
  refine g_conv (ws2 := mainW cA h z.2 ++ modW cA g R) rfl ?_
  refine g_aload_n C (pc := 804) dL_law_804 1 rfl ?_
  refine g_aload_n C (pc := 805) dL_law_805 3 rfl ?_
  refine g_iload_n C (pc := 806) dL_law_806 0 rfl ?_
  refine g_iconst C (pc := 807) dL_law_807 cI_1 ?_
  refine g_iadd C (pc := 808) dL_law_808 ?_
  refine g_sld C (pc := 809) hX0 hbl hbA h1 dL_law_809 ?_
  refine g_ev (t2 := nm (xX5_dot R (xs (i + 1).toNatClampNeg)) (fun _ => ())) rfl ?_
  refine g_Vei C (pc := 810) (As := [.int (xs (i + 1).toNatClampNeg)]) (kX5_dot l D cA T g R (xs (i + 1).toNatClampNeg) hzR) (v_law_mod cA h g z.2 R) gL_law_X5_dot rfl ⟨rfl, rfl⟩ ⟨Nat.le_of_ble_eq_true rfl, Nat.le_of_ble_eq_true rfl⟩ ⟨Nat.le_of_ble_eq_true rfl, Nat.le_of_ble_eq_true rfl⟩ rfl (Nat.le_of_ble_eq_true rfl) hdL_X5_dot 0 rfl rfl rfl dL_law_810 (fun y ey hzy => ?_)
  refine g_ev (t2 := ()) rfl ?_
  refine g_conv (ws2 := mainW cA h z.2 ++ modW cA g y.2) rfl ?_
  have o := C_dot hr ez ey
  refine g_icmp_eq0 C (pc := 813) 1157 dL_law_813 (by decide) (fun hc => ?_) (fun hc => absurd o.1 hc)
  exact K z.2 y.2 o.2 hzz hzy
set_option maxHeartbeats 4000000 in
theorem law_c24 {p : Program} {l : Launch} {e : Env} {s : State} {m : MethodId} {b : Nat} {below : List Frame} {meth : Method} {c : Code} {D : va_G} {cA : ClassId} {T : Nat × Nat × Nat} {A : Nat → Prop} {Q : State → Prop} {Ln : Nat} {xs : Nat → Int32} {h g : Nat → Nat} {X R : St} {i : Int32} {TT : Nat} (C : Cx p s m #[.ref b] meth c D cA T A cL_law 4 RL wsL_law ret) (hX0 : va_X b Ln xs s s.heap) (hbl : b < s.heap.size) (hbA : ¬ A b) (h1 : vp_in (i + 1) Ln) (h2 : vp_in (i + 2) Ln) (h3 : vp_in (i + 3) Ln) (h4 : vp_in (i + 4) Ln) (hr : REL TT X R) (hzX : Zmain X) (hzR : Zmod R) (hT : TT ≤ 1000000) (K : ∀ X2 R2 : St, REL (TT + 3000) X2 R2 → Zmain X2 → Zmod R2 → G p l e room_1 s m #[.ref b] below meth c 66 1618 D A Q 4 () () (mainW cA h X2 ++ modW cA g R2) 1157 [(3, .int i), (2, .ref (g 0)), (1, .ref (h 0)), (0, .ref b)] []) : G p l e room_1 s m #[.ref b] below meth c 66 1618 D A Q 4 () () (mainW cA h X ++ modW cA g R) 818 [(3, .int i), (2, .ref (g 0)), (1, .ref (h 0)), (0, .ref b)] [] := by
  have hm := mh_z hzX
  refine g_aload_n C (pc := 818) dL_law_818 2 rfl ?_
  refine g_aload_n C (pc := 819) dL_law_819 3 rfl ?_
  refine g_iload_n C (pc := 820) dL_law_820 0 rfl ?_
  refine g_iconst C (pc := 821) dL_law_821 cI_1 ?_
  refine g_iadd C (pc := 822) dL_law_822 ?_
  refine g_sld C (pc := 823) hX0 hbl hbA h1 dL_law_823 ?_
  refine g_ev (t2 := nm (xX4_even X (xs (i + 1).toNatClampNeg)) (fun _ => ())) rfl ?_
  refine g_Vei C (pc := 824) (As := [.int (xs (i + 1).toNatClampNeg)]) (kX4_even l D cA T h X (xs (i + 1).toNatClampNeg) hzX) (v_law_main cA h g X R) gL_law_X4_even rfl ⟨rfl, rfl⟩ ⟨Nat.le_of_ble_eq_true rfl, Nat.le_of_ble_eq_true rfl⟩ ⟨Nat.le_of_ble_eq_true rfl, Nat.le_of_ble_eq_true rfl⟩ rfl (Nat.le_of_ble_eq_true rfl) hdL_X4_even 0 rfl rfl rfl dL_law_824 (fun z ez hzz => ?_)
  refine g_ev (t2 := ()) rfl ?_
  refine g_conv (ws2 := mainW cA h z.2 ++ modW cA g R) rfl ?_
  refine g_aload_n C (pc := 827) dL_law_827 1 rfl ?_
  refine g_aload_n C (pc := 828) dL_law_828 3 rfl ?_
  refine g_iload_n C (pc := 829) dL_law_829 0 rfl ?_
  refine g_iconst C (pc := 830) dL_law_830 cI_1 ?_
  refine g_iadd C (pc := 831) dL_law_831 ?_
  refine g_sld C (pc := 832) hX0 hbl hbA h1 dL_law_832 ?_
  refine g_ev (t2 := nm (xX5_even R (xs (i + 1).toNatClampNeg)) (fun _ => ())) rfl ?_
  refine g_Vei C (pc := 833) (As := [.int (xs (i + 1).toNatClampNeg)]) (kX5_even l D cA T g R (xs (i + 1).toNatClampNeg) hzR) (v_law_mod cA h g z.2 R) gL_law_X5_even rfl ⟨rfl, rfl⟩ ⟨Nat.le_of_ble_eq_true rfl, Nat.le_of_ble_eq_true rfl⟩ ⟨Nat.le_of_ble_eq_true rfl, Nat.le_of_ble_eq_true rfl⟩ rfl (Nat.le_of_ble_eq_true rfl) hdL_X5_even 0 rfl rfl rfl dL_law_833 (fun y ey hzy => ?_)
  refine g_ev (t2 := ()) rfl ?_
  refine g_conv (ws2 := mainW cA h z.2 ++ modW cA g y.2) rfl ?_
  have o := C_even (by omega) hr ez ey
  refine g_icmp_eq0 C (pc := 836) 1157 dL_law_836 (by decide) (fun hc => ?_) (fun hc => absurd o.1 hc)
  exact K z.2 y.2 o.2 hzz hzy
set_option maxHeartbeats 4000000 in
theorem law_c25 {p : Program} {l : Launch} {e : Env} {s : State} {m : MethodId} {b : Nat} {below : List Frame} {meth : Method} {c : Code} {D : va_G} {cA : ClassId} {T : Nat × Nat × Nat} {A : Nat → Prop} {Q : State → Prop} {Ln : Nat} {xs : Nat → Int32} {h g : Nat → Nat} {X R : St} {i : Int32} {TT : Nat} (C : Cx p s m #[.ref b] meth c D cA T A cL_law 4 RL wsL_law ret) (hX0 : va_X b Ln xs s s.heap) (hbl : b < s.heap.size) (hbA : ¬ A b) (h1 : vp_in (i + 1) Ln) (h2 : vp_in (i + 2) Ln) (h3 : vp_in (i + 3) Ln) (h4 : vp_in (i + 4) Ln) (hr : REL TT X R) (hzX : Zmain X) (hzR : Zmod R) (hT : TT ≤ 1000000) (K : ∀ X2 R2 : St, REL (TT + 3000) X2 R2 → Zmain X2 → Zmod R2 → G p l e room_1 s m #[.ref b] below meth c 66 1618 D A Q 4 () () (mainW cA h X2 ++ modW cA g R2) 1157 [(3, .int i), (2, .ref (g 0)), (1, .ref (h 0)), (0, .ref b)] []) : G p l e room_1 s m #[.ref b] below meth c 66 1618 D A Q 4 () () (mainW cA h X ++ modW cA g R) 841 [(3, .int i), (2, .ref (g 0)), (1, .ref (h 0)), (0, .ref b)] [] := by
  have hm := mh_z hzX
  refine g_aload_n C (pc := 841) dL_law_841 2 rfl ?_
  refine g_aload_n C (pc := 842) dL_law_842 3 rfl ?_
  refine g_iload_n C (pc := 843) dL_law_843 0 rfl ?_
  refine g_iconst C (pc := 844) dL_law_844 cI_1 ?_
  refine g_iadd C (pc := 845) dL_law_845 ?_
  refine g_sld C (pc := 846) hX0 hbl hbA h1 dL_law_846 ?_
  refine g_ev (t2 := nm (xX4_longer X (xs (i + 1).toNatClampNeg)) (fun _ => ())) rfl ?_
  refine g_Vei C (pc := 847) (As := [.int (xs (i + 1).toNatClampNeg)]) (kX4_longer l D cA T h X (xs (i + 1).toNatClampNeg) hzX) (v_law_main cA h g X R) gL_law_X4_longer rfl ⟨rfl, rfl⟩ ⟨Nat.le_of_ble_eq_true rfl, Nat.le_of_ble_eq_true rfl⟩ ⟨Nat.le_of_ble_eq_true rfl, Nat.le_of_ble_eq_true rfl⟩ rfl (Nat.le_of_ble_eq_true rfl) hdL_X4_longer 0 rfl rfl rfl dL_law_847 (fun z ez hzz => ?_)
  refine g_ev (t2 := ()) rfl ?_
  refine g_conv (ws2 := mainW cA h z.2 ++ modW cA g R) rfl ?_
  refine g_aload_n C (pc := 850) dL_law_850 1 rfl ?_
  refine g_aload_n C (pc := 851) dL_law_851 3 rfl ?_
  refine g_iload_n C (pc := 852) dL_law_852 0 rfl ?_
  refine g_iconst C (pc := 853) dL_law_853 cI_1 ?_
  refine g_iadd C (pc := 854) dL_law_854 ?_
  refine g_sld C (pc := 855) hX0 hbl hbA h1 dL_law_855 ?_
  refine g_ev (t2 := nm (xX5_longer R (xs (i + 1).toNatClampNeg)) (fun _ => ())) rfl ?_
  refine g_Vei C (pc := 856) (As := [.int (xs (i + 1).toNatClampNeg)]) (kX5_longer l D cA T g R (xs (i + 1).toNatClampNeg) hzR) (v_law_mod cA h g z.2 R) gL_law_X5_longer rfl ⟨rfl, rfl⟩ ⟨Nat.le_of_ble_eq_true rfl, Nat.le_of_ble_eq_true rfl⟩ ⟨Nat.le_of_ble_eq_true rfl, Nat.le_of_ble_eq_true rfl⟩ rfl (Nat.le_of_ble_eq_true rfl) hdL_X5_longer 0 rfl rfl rfl dL_law_856 (fun y ey hzy => ?_)
  refine g_ev (t2 := ()) rfl ?_
  refine g_conv (ws2 := mainW cA h z.2 ++ modW cA g y.2) rfl ?_
  have o := C_longer (by omega) hr ez ey
  refine g_icmp_eq0 C (pc := 859) 1157 dL_law_859 (by decide) (fun hc => ?_) (fun hc => absurd o.1 hc)
  exact K z.2 y.2 o.2 hzz hzy
set_option maxHeartbeats 4000000 in
theorem law_c26 {p : Program} {l : Launch} {e : Env} {s : State} {m : MethodId} {b : Nat} {below : List Frame} {meth : Method} {c : Code} {D : va_G} {cA : ClassId} {T : Nat × Nat × Nat} {A : Nat → Prop} {Q : State → Prop} {Ln : Nat} {xs : Nat → Int32} {h g : Nat → Nat} {X R : St} {i : Int32} {TT : Nat} (C : Cx p s m #[.ref b] meth c D cA T A cL_law 4 RL wsL_law ret) (hX0 : va_X b Ln xs s s.heap) (hbl : b < s.heap.size) (hbA : ¬ A b) (h1 : vp_in (i + 1) Ln) (h2 : vp_in (i + 2) Ln) (h3 : vp_in (i + 3) Ln) (h4 : vp_in (i + 4) Ln) (hr : REL TT X R) (hzX : Zmain X) (hzR : Zmod R) (hT : TT ≤ 1000000) (K : ∀ X2 R2 : St, REL (TT + 3000) X2 R2 → Zmain X2 → Zmod R2 → G p l e room_1 s m #[.ref b] below meth c 66 1618 D A Q 4 () () (mainW cA h X2 ++ modW cA g R2) 1157 [(3, .int i), (2, .ref (g 0)), (1, .ref (h 0)), (0, .ref b)] []) : G p l e room_1 s m #[.ref b] below meth c 66 1618 D A Q 4 () () (mainW cA h X ++ modW cA g R) 864 [(3, .int i), (2, .ref (g 0)), (1, .ref (h 0)), (0, .ref b)] [] := by
  have hm := mh_z hzX
  refine g_aload_n C (pc := 864) dL_law_864 2 rfl ?_
  refine g_aload_n C (pc := 865) dL_law_865 3 rfl ?_
  refine g_iload_n C (pc := 866) dL_law_866 0 rfl ?_
  refine g_iconst C (pc := 867) dL_law_867 cI_1 ?_
  refine g_iadd C (pc := 868) dL_law_868 ?_
  refine g_sld C (pc := 869) hX0 hbl hbA h1 dL_law_869 ?_
  refine g_ev (t2 := nm (xX4_slow X (xs (i + 1).toNatClampNeg)) (fun _ => ())) rfl ?_
  refine g_Vei C (pc := 870) (As := [.int (xs (i + 1).toNatClampNeg)]) (kX4_slow l D cA T h X (xs (i + 1).toNatClampNeg) hzX) (v_law_main cA h g X R) gL_law_X4_slow rfl ⟨rfl, rfl⟩ ⟨Nat.le_of_ble_eq_true rfl, Nat.le_of_ble_eq_true rfl⟩ ⟨Nat.le_of_ble_eq_true rfl, Nat.le_of_ble_eq_true rfl⟩ rfl (Nat.le_of_ble_eq_true rfl) hdL_X4_slow 0 rfl rfl rfl dL_law_870 (fun z ez hzz => ?_)
  refine g_ev (t2 := ()) rfl ?_
  refine g_conv (ws2 := mainW cA h z.2 ++ modW cA g R) rfl ?_
  refine g_aload_n C (pc := 873) dL_law_873 1 rfl ?_
  refine g_aload_n C (pc := 874) dL_law_874 3 rfl ?_
  refine g_iload_n C (pc := 875) dL_law_875 0 rfl ?_
  refine g_iconst C (pc := 876) dL_law_876 cI_1 ?_
  refine g_iadd C (pc := 877) dL_law_877 ?_
  refine g_sld C (pc := 878) hX0 hbl hbA h1 dL_law_878 ?_
  refine g_ev (t2 := nm (xX5_slow R (xs (i + 1).toNatClampNeg)) (fun _ => ())) rfl ?_
  refine g_Vei C (pc := 879) (As := [.int (xs (i + 1).toNatClampNeg)]) (kX5_slow l D cA T g R (xs (i + 1).toNatClampNeg) hzR) (v_law_mod cA h g z.2 R) gL_law_X5_slow rfl ⟨rfl, rfl⟩ ⟨Nat.le_of_ble_eq_true rfl, Nat.le_of_ble_eq_true rfl⟩ ⟨Nat.le_of_ble_eq_true rfl, Nat.le_of_ble_eq_true rfl⟩ rfl (Nat.le_of_ble_eq_true rfl) hdL_X5_slow 0 rfl rfl rfl dL_law_879 (fun y ey hzy => ?_)
  refine g_ev (t2 := ()) rfl ?_
  refine g_conv (ws2 := mainW cA h z.2 ++ modW cA g y.2) rfl ?_
  have o := C_slow (by omega) hr ez ey
  refine g_icmp_eq0 C (pc := 882) 1157 dL_law_882 (by decide) (fun hc => ?_) (fun hc => absurd o.1 hc)
  exact K z.2 y.2 o.2 hzz hzy
set_option maxHeartbeats 4000000 in
theorem law_c27 {p : Program} {l : Launch} {e : Env} {s : State} {m : MethodId} {b : Nat} {below : List Frame} {meth : Method} {c : Code} {D : va_G} {cA : ClassId} {T : Nat × Nat × Nat} {A : Nat → Prop} {Q : State → Prop} {Ln : Nat} {xs : Nat → Int32} {h g : Nat → Nat} {X R : St} {i : Int32} {TT : Nat} (C : Cx p s m #[.ref b] meth c D cA T A cL_law 4 RL wsL_law ret) (hX0 : va_X b Ln xs s s.heap) (hbl : b < s.heap.size) (hbA : ¬ A b) (h1 : vp_in (i + 1) Ln) (h2 : vp_in (i + 2) Ln) (h3 : vp_in (i + 3) Ln) (h4 : vp_in (i + 4) Ln) (hr : REL TT X R) (hzX : Zmain X) (hzR : Zmod R) (hT : TT ≤ 1000000) (K : ∀ X2 R2 : St, REL (TT + 3000) X2 R2 → Zmain X2 → Zmod R2 → G p l e room_1 s m #[.ref b] below meth c 66 1618 D A Q 4 () () (mainW cA h X2 ++ modW cA g R2) 1157 [(3, .int i), (2, .ref (g 0)), (1, .ref (h 0)), (0, .ref b)] []) : G p l e room_1 s m #[.ref b] below meth c 66 1618 D A Q 4 () () (mainW cA h X ++ modW cA g R) 887 [(3, .int i), (2, .ref (g 0)), (1, .ref (h 0)), (0, .ref b)] [] := by
  have hm := mh_z hzX
  refine g_aload_n C (pc := 887) dL_law_887 2 rfl ?_
  refine g_aload_n C (pc := 888) dL_law_888 3 rfl ?_
  refine g_iload_n C (pc := 889) dL_law_889 0 rfl ?_
  refine g_iconst C (pc := 890) dL_law_890 cI_1 ?_
  refine g_iadd C (pc := 891) dL_law_891 ?_
  refine g_sld C (pc := 892) hX0 hbl hbA h1 dL_law_892 ?_
  refine g_ev (t2 := nm (xX4_hour X (xs (i + 1).toNatClampNeg)) (fun _ => ())) rfl ?_
  refine g_Vei C (pc := 893) (As := [.int (xs (i + 1).toNatClampNeg)]) (kX4_hour l D cA T h X (xs (i + 1).toNatClampNeg) hzX) (v_law_main cA h g X R) gL_law_X4_hour rfl ⟨rfl, rfl⟩ ⟨Nat.le_of_ble_eq_true rfl, Nat.le_of_ble_eq_true rfl⟩ ⟨Nat.le_of_ble_eq_true rfl, Nat.le_of_ble_eq_true rfl⟩ rfl (Nat.le_of_ble_eq_true rfl) hdL_X4_hour 0 rfl rfl rfl dL_law_893 (fun z ez hzz => ?_)
  refine g_ev (t2 := ()) rfl ?_
  refine g_conv (ws2 := mainW cA h z.2 ++ modW cA g R) rfl ?_
  refine g_aload_n C (pc := 896) dL_law_896 1 rfl ?_
  refine g_aload_n C (pc := 897) dL_law_897 3 rfl ?_
  refine g_iload_n C (pc := 898) dL_law_898 0 rfl ?_
  refine g_iconst C (pc := 899) dL_law_899 cI_1 ?_
  refine g_iadd C (pc := 900) dL_law_900 ?_
  refine g_sld C (pc := 901) hX0 hbl hbA h1 dL_law_901 ?_
  refine g_ev (t2 := nm (xX5_hour R (xs (i + 1).toNatClampNeg)) (fun _ => ())) rfl ?_
  refine g_Vei C (pc := 902) (As := [.int (xs (i + 1).toNatClampNeg)]) (kX5_hour l D cA T g R (xs (i + 1).toNatClampNeg) hzR) (v_law_mod cA h g z.2 R) gL_law_X5_hour rfl ⟨rfl, rfl⟩ ⟨Nat.le_of_ble_eq_true rfl, Nat.le_of_ble_eq_true rfl⟩ ⟨Nat.le_of_ble_eq_true rfl, Nat.le_of_ble_eq_true rfl⟩ rfl (Nat.le_of_ble_eq_true rfl) hdL_X5_hour 0 rfl rfl rfl dL_law_902 (fun y ey hzy => ?_)
  refine g_ev (t2 := ()) rfl ?_
  refine g_conv (ws2 := mainW cA h z.2 ++ modW cA g y.2) rfl ?_
  have o := C_hour hr ez ey
  refine g_icmp_eq0 C (pc := 905) 1157 dL_law_905 (by decide) (fun hc => ?_) (fun hc => absurd o.1 hc)
  exact K z.2 y.2 o.2 hzz hzy
set_option maxHeartbeats 4000000 in
theorem law_c28 {p : Program} {l : Launch} {e : Env} {s : State} {m : MethodId} {b : Nat} {below : List Frame} {meth : Method} {c : Code} {D : va_G} {cA : ClassId} {T : Nat × Nat × Nat} {A : Nat → Prop} {Q : State → Prop} {Ln : Nat} {xs : Nat → Int32} {h g : Nat → Nat} {X R : St} {i : Int32} {TT : Nat} (C : Cx p s m #[.ref b] meth c D cA T A cL_law 4 RL wsL_law ret) (hX0 : va_X b Ln xs s s.heap) (hbl : b < s.heap.size) (hbA : ¬ A b) (h1 : vp_in (i + 1) Ln) (h2 : vp_in (i + 2) Ln) (h3 : vp_in (i + 3) Ln) (h4 : vp_in (i + 4) Ln) (hr : REL TT X R) (hzX : Zmain X) (hzR : Zmod R) (hT : TT ≤ 1000000) (K : ∀ X2 R2 : St, REL (TT + 3000) X2 R2 → Zmain X2 → Zmod R2 → G p l e room_1 s m #[.ref b] below meth c 66 1618 D A Q 4 () () (mainW cA h X2 ++ modW cA g R2) 1157 [(3, .int i), (2, .ref (g 0)), (1, .ref (h 0)), (0, .ref b)] []) : G p l e room_1 s m #[.ref b] below meth c 66 1618 D A Q 4 () () (mainW cA h X ++ modW cA g R) 910 [(3, .int i), (2, .ref (g 0)), (1, .ref (h 0)), (0, .ref b)] [] := by
  have hm := mh_z hzX
  refine g_aload_n C (pc := 910) dL_law_910 2 rfl ?_
  refine g_aload_n C (pc := 911) dL_law_911 3 rfl ?_
  refine g_iload_n C (pc := 912) dL_law_912 0 rfl ?_
  refine g_iconst C (pc := 913) dL_law_913 cI_1 ?_
  refine g_iadd C (pc := 914) dL_law_914 ?_
  refine g_sld C (pc := 915) hX0 hbl hbA h1 dL_law_915 ?_
  refine g_ev (t2 := nm (xX4_gap X (xs (i + 1).toNatClampNeg)) (fun _ => ())) rfl ?_
  refine g_Vei C (pc := 916) (As := [.int (xs (i + 1).toNatClampNeg)]) (kX4_gap l D cA T h X (xs (i + 1).toNatClampNeg) hzX) (v_law_main cA h g X R) gL_law_X4_gap rfl ⟨rfl, rfl⟩ ⟨Nat.le_of_ble_eq_true rfl, Nat.le_of_ble_eq_true rfl⟩ ⟨Nat.le_of_ble_eq_true rfl, Nat.le_of_ble_eq_true rfl⟩ rfl (Nat.le_of_ble_eq_true rfl) hdL_X4_gap 0 rfl rfl rfl dL_law_916 (fun z ez hzz => ?_)
  refine g_ev (t2 := ()) rfl ?_
  refine g_conv (ws2 := mainW cA h z.2 ++ modW cA g R) rfl ?_
  refine g_aload_n C (pc := 919) dL_law_919 1 rfl ?_
  refine g_aload_n C (pc := 920) dL_law_920 3 rfl ?_
  refine g_iload_n C (pc := 921) dL_law_921 0 rfl ?_
  refine g_iconst C (pc := 922) dL_law_922 cI_1 ?_
  refine g_iadd C (pc := 923) dL_law_923 ?_
  refine g_sld C (pc := 924) hX0 hbl hbA h1 dL_law_924 ?_
  refine g_ev (t2 := nm (xX5_gap R (xs (i + 1).toNatClampNeg)) (fun _ => ())) rfl ?_
  refine g_Vei C (pc := 925) (As := [.int (xs (i + 1).toNatClampNeg)]) (kX5_gap l D cA T g R (xs (i + 1).toNatClampNeg) hzR) (v_law_mod cA h g z.2 R) gL_law_X5_gap rfl ⟨rfl, rfl⟩ ⟨Nat.le_of_ble_eq_true rfl, Nat.le_of_ble_eq_true rfl⟩ ⟨Nat.le_of_ble_eq_true rfl, Nat.le_of_ble_eq_true rfl⟩ rfl (Nat.le_of_ble_eq_true rfl) hdL_X5_gap 0 rfl rfl rfl dL_law_925 (fun y ey hzy => ?_)
  refine g_ev (t2 := ()) rfl ?_
  refine g_conv (ws2 := mainW cA h z.2 ++ modW cA g y.2) rfl ?_
  have o := C_gap hr hzR ez ey
  refine g_icmp_eq0 C (pc := 928) 1157 dL_law_928 (by decide) (fun hc => ?_) (fun hc => absurd o.1 hc)
  exact K z.2 y.2 o.2 hzz hzy
set_option maxHeartbeats 4000000 in
theorem law_c29 {p : Program} {l : Launch} {e : Env} {s : State} {m : MethodId} {b : Nat} {below : List Frame} {meth : Method} {c : Code} {D : va_G} {cA : ClassId} {T : Nat × Nat × Nat} {A : Nat → Prop} {Q : State → Prop} {Ln : Nat} {xs : Nat → Int32} {h g : Nat → Nat} {X R : St} {i : Int32} {TT : Nat} (C : Cx p s m #[.ref b] meth c D cA T A cL_law 4 RL wsL_law ret) (hX0 : va_X b Ln xs s s.heap) (hbl : b < s.heap.size) (hbA : ¬ A b) (h1 : vp_in (i + 1) Ln) (h2 : vp_in (i + 2) Ln) (h3 : vp_in (i + 3) Ln) (h4 : vp_in (i + 4) Ln) (hr : REL TT X R) (hzX : Zmain X) (hzR : Zmod R) (hT : TT ≤ 1000000) (K : ∀ X2 R2 : St, REL (TT + 3000) X2 R2 → Zmain X2 → Zmod R2 → G p l e room_1 s m #[.ref b] below meth c 66 1618 D A Q 4 () () (mainW cA h X2 ++ modW cA g R2) 1157 [(3, .int i), (2, .ref (g 0)), (1, .ref (h 0)), (0, .ref b)] []) : G p l e room_1 s m #[.ref b] below meth c 66 1618 D A Q 4 () () (mainW cA h X ++ modW cA g R) 933 [(3, .int i), (2, .ref (g 0)), (1, .ref (h 0)), (0, .ref b)] [] := by
  have hm := mh_z hzX
  refine g_aload_n C (pc := 933) dL_law_933 2 rfl ?_
  refine g_aload_n C (pc := 934) dL_law_934 3 rfl ?_
  refine g_iload_n C (pc := 935) dL_law_935 0 rfl ?_
  refine g_iconst C (pc := 936) dL_law_936 cI_1 ?_
  refine g_iadd C (pc := 937) dL_law_937 ?_
  refine g_sld C (pc := 938) hX0 hbl hbA h1 dL_law_938 ?_
  refine g_ev (t2 := nm (xX4_judge X (xs (i + 1).toNatClampNeg)) (fun _ => ())) rfl ?_
  refine g_Vei C (pc := 939) (As := [.int (xs (i + 1).toNatClampNeg)]) (kX4_judge l D cA T h X (xs (i + 1).toNatClampNeg) hzX) (v_law_main cA h g X R) gL_law_X4_judge rfl ⟨rfl, rfl⟩ ⟨Nat.le_of_ble_eq_true rfl, Nat.le_of_ble_eq_true rfl⟩ ⟨Nat.le_of_ble_eq_true rfl, Nat.le_of_ble_eq_true rfl⟩ rfl (Nat.le_of_ble_eq_true rfl) hdL_X4_judge 0 rfl rfl rfl dL_law_939 (fun z ez hzz => ?_)
  refine g_ev (t2 := ()) rfl ?_
  refine g_conv (ws2 := mainW cA h z.2 ++ modW cA g R) rfl ?_
  refine g_aload_n C (pc := 942) dL_law_942 1 rfl ?_
  refine g_aload_n C (pc := 943) dL_law_943 3 rfl ?_
  refine g_iload_n C (pc := 944) dL_law_944 0 rfl ?_
  refine g_iconst C (pc := 945) dL_law_945 cI_1 ?_
  refine g_iadd C (pc := 946) dL_law_946 ?_
  refine g_sld C (pc := 947) hX0 hbl hbA h1 dL_law_947 ?_
  refine g_ev (t2 := nm (xX5_judge R (xs (i + 1).toNatClampNeg)) (fun _ => ())) rfl ?_
  refine g_Vei C (pc := 948) (As := [.int (xs (i + 1).toNatClampNeg)]) (kX5_judge l D cA T g R (xs (i + 1).toNatClampNeg) hzR) (v_law_mod cA h g z.2 R) gL_law_X5_judge rfl ⟨rfl, rfl⟩ ⟨Nat.le_of_ble_eq_true rfl, Nat.le_of_ble_eq_true rfl⟩ ⟨Nat.le_of_ble_eq_true rfl, Nat.le_of_ble_eq_true rfl⟩ rfl (Nat.le_of_ble_eq_true rfl) hdL_X5_judge 0 rfl rfl rfl dL_law_948 (fun y ey hzy => ?_)
  refine g_ev (t2 := ()) rfl ?_
  refine g_conv (ws2 := mainW cA h z.2 ++ modW cA g y.2) rfl ?_
  have o := C_judge (by omega) hr hzR ez ey
  refine g_icmp_eq0 C (pc := 951) 1157 dL_law_951 (by decide) (fun hc => ?_) (fun hc => absurd o.1 hc)
  exact K z.2 y.2 o.2 hzz hzy
