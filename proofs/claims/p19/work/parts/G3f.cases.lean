theorem dL_law_627 : decode cL_law 627 = .ok (.aload_n 1, 1) := by decide +kernel
theorem dL_law_628 : decode cL_law 628 = .ok (.aload_n 0, 1) := by decide +kernel
theorem dL_law_629 : decode cL_law 629 = .ok (.iload_n 3, 1) := by decide +kernel
theorem dL_law_630 : decode cL_law 630 = .ok (.iconst 1, 1) := by decide +kernel
theorem dL_law_631 : decode cL_law 631 = .ok (.iadd, 1) := by decide +kernel
theorem dL_law_632 : decode cL_law 632 = .ok (.iaload, 1) := by decide +kernel
theorem dL_law_633 : decode cL_law 633 = .ok (.aload_n 0, 1) := by decide +kernel
theorem dL_law_634 : decode cL_law 634 = .ok (.iload_n 3, 1) := by decide +kernel
theorem dL_law_635 : decode cL_law 635 = .ok (.iconst 2, 1) := by decide +kernel
theorem dL_law_636 : decode cL_law 636 = .ok (.iadd, 1) := by decide +kernel
theorem dL_law_637 : decode cL_law 637 = .ok (.iaload, 1) := by decide +kernel
theorem dL_law_638 : decode cL_law 638 = .ok (.aload_n 0, 1) := by decide +kernel
theorem dL_law_639 : decode cL_law 639 = .ok (.iload_n 3, 1) := by decide +kernel
theorem dL_law_640 : decode cL_law 640 = .ok (.iconst 3, 1) := by decide +kernel
theorem dL_law_641 : decode cL_law 641 = .ok (.iadd, 1) := by decide +kernel
theorem dL_law_642 : decode cL_law 642 = .ok (.iaload, 1) := by decide +kernel
theorem dL_law_643 : decode cL_law 643 = .ok (.invokevirtual 80, 3) := by decide +kernel
theorem dL_law_646 : decode cL_law 646 = .ok (.pop, 1) := by decide +kernel
theorem dL_law_647 : decode cL_law 647 = .ok (.aload_n 2, 1) := by decide +kernel
theorem dL_law_648 : decode cL_law 648 = .ok (.aload_n 0, 1) := by decide +kernel
theorem dL_law_649 : decode cL_law 649 = .ok (.iload_n 3, 1) := by decide +kernel
theorem dL_law_650 : decode cL_law 650 = .ok (.iconst 1, 1) := by decide +kernel
theorem dL_law_651 : decode cL_law 651 = .ok (.iadd, 1) := by decide +kernel
theorem dL_law_652 : decode cL_law 652 = .ok (.iaload, 1) := by decide +kernel
theorem dL_law_653 : decode cL_law 653 = .ok (.aload_n 0, 1) := by decide +kernel
theorem dL_law_654 : decode cL_law 654 = .ok (.iload_n 3, 1) := by decide +kernel
theorem dL_law_655 : decode cL_law 655 = .ok (.iconst 2, 1) := by decide +kernel
theorem dL_law_656 : decode cL_law 656 = .ok (.iadd, 1) := by decide +kernel
theorem dL_law_657 : decode cL_law 657 = .ok (.iaload, 1) := by decide +kernel
theorem dL_law_658 : decode cL_law 658 = .ok (.aload_n 0, 1) := by decide +kernel
theorem dL_law_659 : decode cL_law 659 = .ok (.iload_n 3, 1) := by decide +kernel
theorem dL_law_660 : decode cL_law 660 = .ok (.iconst 3, 1) := by decide +kernel
theorem dL_law_661 : decode cL_law 661 = .ok (.iadd, 1) := by decide +kernel
theorem dL_law_662 : decode cL_law 662 = .ok (.iaload, 1) := by decide +kernel
theorem dL_law_663 : decode cL_law 663 = .ok (.invokevirtual 83, 3) := by decide +kernel
theorem dL_law_666 : decode cL_law 666 = .ok (.pop, 1) := by decide +kernel
theorem dL_law_667 : decode cL_law 667 = .ok (.goto 280, 3) := by decide +kernel
theorem dL_law_670 : decode cL_law 670 = .ok (.aload_n 1, 1) := by decide +kernel
theorem dL_law_671 : decode cL_law 671 = .ok (.aload_n 0, 1) := by decide +kernel
theorem dL_law_672 : decode cL_law 672 = .ok (.iload_n 3, 1) := by decide +kernel
theorem dL_law_673 : decode cL_law 673 = .ok (.iconst 1, 1) := by decide +kernel
theorem dL_law_674 : decode cL_law 674 = .ok (.iadd, 1) := by decide +kernel
theorem dL_law_675 : decode cL_law 675 = .ok (.iaload, 1) := by decide +kernel
theorem dL_law_676 : decode cL_law 676 = .ok (.aload_n 0, 1) := by decide +kernel
theorem dL_law_677 : decode cL_law 677 = .ok (.iload_n 3, 1) := by decide +kernel
theorem dL_law_678 : decode cL_law 678 = .ok (.iconst 2, 1) := by decide +kernel
theorem dL_law_679 : decode cL_law 679 = .ok (.iadd, 1) := by decide +kernel
theorem dL_law_680 : decode cL_law 680 = .ok (.iaload, 1) := by decide +kernel
theorem dL_law_681 : decode cL_law 681 = .ok (.aload_n 0, 1) := by decide +kernel
theorem dL_law_682 : decode cL_law 682 = .ok (.iload_n 3, 1) := by decide +kernel
theorem dL_law_683 : decode cL_law 683 = .ok (.iconst 3, 1) := by decide +kernel
theorem dL_law_684 : decode cL_law 684 = .ok (.iadd, 1) := by decide +kernel
theorem dL_law_685 : decode cL_law 685 = .ok (.iaload, 1) := by decide +kernel
theorem dL_law_686 : decode cL_law 686 = .ok (.invokevirtual 84, 3) := by decide +kernel
theorem dL_law_689 : decode cL_law 689 = .ok (.pop, 1) := by decide +kernel
theorem dL_law_690 : decode cL_law 690 = .ok (.aload_n 2, 1) := by decide +kernel
theorem dL_law_691 : decode cL_law 691 = .ok (.aload_n 0, 1) := by decide +kernel
theorem dL_law_692 : decode cL_law 692 = .ok (.iload_n 3, 1) := by decide +kernel
theorem dL_law_693 : decode cL_law 693 = .ok (.iconst 1, 1) := by decide +kernel
theorem dL_law_694 : decode cL_law 694 = .ok (.iadd, 1) := by decide +kernel
theorem dL_law_695 : decode cL_law 695 = .ok (.iaload, 1) := by decide +kernel
theorem dL_law_696 : decode cL_law 696 = .ok (.aload_n 0, 1) := by decide +kernel
theorem dL_law_697 : decode cL_law 697 = .ok (.iload_n 3, 1) := by decide +kernel
theorem dL_law_698 : decode cL_law 698 = .ok (.iconst 2, 1) := by decide +kernel
theorem dL_law_699 : decode cL_law 699 = .ok (.iadd, 1) := by decide +kernel
theorem dL_law_700 : decode cL_law 700 = .ok (.iaload, 1) := by decide +kernel
theorem dL_law_701 : decode cL_law 701 = .ok (.aload_n 0, 1) := by decide +kernel
theorem dL_law_702 : decode cL_law 702 = .ok (.iload_n 3, 1) := by decide +kernel
theorem dL_law_703 : decode cL_law 703 = .ok (.iconst 3, 1) := by decide +kernel
theorem dL_law_704 : decode cL_law 704 = .ok (.iadd, 1) := by decide +kernel
theorem dL_law_705 : decode cL_law 705 = .ok (.iaload, 1) := by decide +kernel
theorem dL_law_706 : decode cL_law 706 = .ok (.invokevirtual 87, 3) := by decide +kernel
theorem dL_law_709 : decode cL_law 709 = .ok (.pop, 1) := by decide +kernel
theorem dL_law_710 : decode cL_law 710 = .ok (.goto 237, 3) := by decide +kernel
set_option maxRecDepth 20000 in
theorem ggL_law_X10_way : GoodIn wsL_law wsX10_way := goodIn_r _ [884, 46, 885, 886, 887, 45, 888, 120, 889, 890, 891, 892, 893, 894, 895, 896, 897, 898, 899, 122, 121, 900, 418, 419, 420, 901, 902, 903, 904, 905, 906, 907, 123, 1100, 1101, 1102, 1103, 1104, 1105, 1106, 1107, 1190, 1191, 1192, 1193] (by decide +kernel) (by decide +kernel)
set_option maxRecDepth 20000 in
theorem gL_law_X10_way : GoodIn wsL_law (wsV RL 80 RX10 yX10_way wsX10_way) := goodIn_app (goodIn_of _ (by decide +kernel)) ggL_law_X10_way
set_option maxRecDepth 100000 in
set_option maxHeartbeats 4000000 in
theorem ggL_law_X11_way : GoodIn wsL_law wsX11_way := goodIn_r _ [911, 158, 197, 198, 5, 199, 912, 913, 914, 915, 159, 916, 917, 918, 919, 920, 921, 922, 1108, 1109, 1110, 1111, 1112, 1113, 1114, 1115, 1116, 1117, 1118, 1119, 1120, 1121, 1122, 1123, 1124, 1125, 1126, 1127, 1128, 1129, 1130, 1131, 1132, 1133, 1134, 1135, 1136, 1137, 1138, 1139, 1140, 1141, 1142, 1143, 1144, 1145, 1146, 1147, 1148, 1149, 1150, 1151, 1152, 1153, 1154] (by with_unfolding_all rfl) (by decide +kernel)
set_option maxRecDepth 20000 in
theorem gL_law_X11_way : GoodIn wsL_law (wsV RL 83 RX11 yX11_way wsX11_way) := goodIn_app (goodIn_of _ (by decide +kernel)) ggL_law_X11_way
set_option maxRecDepth 20000 in
theorem ggL_law_X10_loops : GoodIn wsL_law wsX10_loops := goodIn_r _ [926, 927, 928, 45, 929, 889, 890, 891, 892, 893, 894, 895, 930, 931, 932, 901, 902, 903] (by decide +kernel) (by decide +kernel)
set_option maxRecDepth 20000 in
theorem gL_law_X10_loops : GoodIn wsL_law (wsV RL 84 RX10 yX10_loops wsX10_loops) := goodIn_app (goodIn_of _ (by decide +kernel)) ggL_law_X10_loops
set_option maxRecDepth 100000 in
set_option maxHeartbeats 4000000 in
theorem ggL_law_X11_loops : GoodIn wsL_law wsX11_loops := goodIn_r _ [936, 197, 198, 5, 199, 937, 938, 939, 940, 941, 942, 943, 160, 161, 916, 917, 918, 944, 945, 946, 947, 1108, 1109, 1110, 1111, 1112, 1113, 1114, 1115, 1116, 1117, 1118, 1119, 1120, 1121, 1122, 1123, 1124, 1125, 1126, 1127, 1128, 1129, 1130, 1131, 1132, 1133, 1134, 1135, 1136, 1137, 1138, 1139, 1140, 1141, 1142, 1143, 1144, 1145, 1146, 1147, 1148, 1149, 1150, 1151, 1152, 1153, 1154] (by with_unfolding_all rfl) (by decide +kernel)
set_option maxRecDepth 20000 in
theorem gL_law_X11_loops : GoodIn wsL_law (wsV RL 87 RX11 yX11_loops wsX11_loops) := goodIn_app (goodIn_of _ (by decide +kernel)) ggL_law_X11_loops
set_option maxRecDepth 100000 in
set_option maxHeartbeats 4000000 in
theorem law_c13 {p : Program} {l : Launch} {e : Env} {s : State} {m : MethodId} {below : List Frame} {meth : Method} {c : Code} {b n9 : Nat} {xs : Nat → Int32} {A : Nat → Prop} {D : va_G} {cI cR cM : ClassId} {jn mm k N9 M9 : Nat} {g q : Nat → Nat} {H : Heap} {locs : List Loc} {ls : Array Slot} {adK adV : Nat → Nat} (C : LC p s m meth c b n9 xs A D cI cR cM) (hST : ST adK adV s.heap.size s) (hj : 1 ≤ jn ∧ jn ≤ 3) (hk : k + 5 < n9) (hn9 : n9 ≤ 3073) (hN9 : N9 + 18 ≤ room_1.cells) (hM9 : M9 + 1193 ≤ room_1.slots) (J : JS jn cI cR cM D g A mm q H) (hS : va_S A s.heap H locs) (hl : lv_has ls 4 [(0, .ref b), (1, .ref (g 10)), (2, .ref mm), (3, .int (nI k))]) (hend : ∀ (H1 : Heap) (locs1 : List Loc) (ls1 : Array Slot), JS jn cI cR cM D g A mm q H1 → va_S A s.heap H1 locs1 → lv_has ls1 4 [(0, .ref b), (1, .ref (g 10)), (2, .ref mm), (3, .int (nI k))] → W p l e room_1 s m #[Value.ref b] below meth c H1 locs1 (N9 + 18) (M9 + 1193) (lw_Z below #[Value.ref b] s) (F0 m 947 ls1 [])) : W p l e room_1 s m #[Value.ref b] below meth c H locs N9 M9 (lw_Z below #[Value.ref b] s) (F0 m 627 ls []) := by
  obtain ⟨hx, hb, hr, hml, hown, hts, hX, hbl, hlocks, hK, hA, hA2⟩ := C
  have hbA : ¬ A b := fun q => absurd (hA2 b q) (Nat.not_le.mpr hbl)
  obtain ⟨L, S, f, x0, x1, x2, x3, x4, x5, x6, x7, x8, x9, x10, x11, x12, x13, x14, x15, x16, x17, x18, x19, x20, f0, f1, f2, f3, f4, f5, f6, f7, f8, f9, f10, f11, f12, f13, f14, f15, f16, f17, f18, f19, f20, f21, f22, f23, f24, J, hP, hD, hap, hLK, hSX, h0, h1, h2, h18, hsc, hRX, hRZ, hSe, hFm, hMK, hwt⟩ := J
  have J0 := J
  obtain ⟨hG, hI, hTK, hP1, hD1⟩ := J0
  refine lv_aload_n hx hb dL_law_627 rfl (lv_at hl 1 rfl) ?_
  refine lv_aload_n hx hb dL_law_628 rfl (lv_at hl 0 rfl) ?_
  refine lv_iload_n hx hb dL_law_629 rfl (lv_at hl 3 rfl) ?_
  refine lv_iconst (v := 1) hx hb dL_law_630 (by decide) ?_
  refine lv_eqi (y := nI 1) rfl ?_
  refine lv_iadd hx hb dL_law_631 ?_
  refine lv_eqi (y := nI (k + 1)) (nI_add _ _) ?_
  refine va_sld hx hb hX hbl hbA hS (vp_in_nI (n := k + 1) (by omega) (by omega)) dL_law_632 ?_
  refine lv_eqi (y := xs (k + 1)) (congrArg xs (nI_clamp (by omega))) ?_
  refine lv_aload_n hx hb dL_law_633 rfl (lv_at hl 0 rfl) ?_
  refine lv_iload_n hx hb dL_law_634 rfl (lv_at hl 3 rfl) ?_
  refine lv_iconst (v := 2) hx hb dL_law_635 (by decide) ?_
  refine lv_eqi (y := nI 2) rfl ?_
  refine lv_iadd hx hb dL_law_636 ?_
  refine lv_eqi (y := nI (k + 2)) (nI_add _ _) ?_
  refine va_sld hx hb hX hbl hbA hS (vp_in_nI (n := k + 2) (by omega) (by omega)) dL_law_637 ?_
  refine lv_eqi (y := xs (k + 2)) (congrArg xs (nI_clamp (by omega))) ?_
  refine lv_aload_n hx hb dL_law_638 rfl (lv_at hl 0 rfl) ?_
  refine lv_iload_n hx hb dL_law_639 rfl (lv_at hl 3 rfl) ?_
  refine lv_iconst (v := 3) hx hb dL_law_640 (by decide) ?_
  refine lv_eqi (y := nI 3) rfl ?_
  refine lv_iadd hx hb dL_law_641 ?_
  refine lv_eqi (y := nI (k + 3)) (nI_add _ _) ?_
  refine va_sld hx hb hX hbl hbA hS (vp_in_nI (n := k + 3) (by omega) (by omega)) dL_law_642 ?_
  refine lv_eqi (y := xs (k + 3)) (congrArg xs (nI_clamp (by omega))) ?_
  have h16 := hI _ (gm_16 hG)
  rw [gs_16 hG] at h16
  have h40 := hI _ (gm_40 hG)
  rw [gs_40 hG] at h40
  obtain ⟨c40, h40⟩ := h40
  have h41 := hI _ (gm_41 hG)
  rw [gs_41 hG] at h41
  obtain ⟨c41, h41⟩ := h41
  have h42 := hI _ (gm_42 hG)
  rw [gs_42 hG] at h42
  obtain ⟨c42, h42⟩ := h42
  have h43 := hI _ (gm_43 hG)
  rw [gs_43 hG] at h43
  obtain ⟨c43, h43⟩ := h43
  have hq9 : ∀ q ∈ ([(g 10, .inr (10, [.int (nI jn), .ref (g 11), .ref (g 12), .ref (g 13), .ref (g 15), .ref (g 16), .ref (g 17), .ref (g 18)])), (g 16, .inr (9, [.ref (g 40), .ref (g 41), .ref (g 42), .ref (g 43)])), (g 40, .inl (cI, 512, .inl c40)), (g 41, .inl (cI, 512, .inl c41)), (g 42, .inl (cI, 512, .inl c42)), (g 43, .inl (cI, 512, .inl c43))] : va_W), q.1 ∈ L ∧ f q.1 = q.2 := List.forall_mem_cons.mpr ⟨⟨gm_10 hG, hall_at hG hI⟩, List.forall_mem_cons.mpr ⟨⟨gm_16 hG, h16⟩, List.forall_mem_cons.mpr ⟨⟨gm_40 hG, h40⟩, List.forall_mem_cons.mpr ⟨⟨gm_41 hG, h41⟩, List.forall_mem_cons.mpr ⟨⟨gm_42 hG, h42⟩, List.forall_mem_cons.mpr ⟨⟨gm_43 hG, h43⟩, fun _ h9 => absurd h9 (List.not_mem_nil)⟩⟩⟩⟩⟩⟩
  have hPc := p_list hP1 hq9
  have hDc : va_D (fun _ => True) ([(g 10, .inr (10, [.int (nI jn), .ref (g 11), .ref (g 12), .ref (g 13), .ref (g 15), .ref (g 16), .ref (g 17), .ref (g 18)])), (g 16, .inr (9, [.ref (g 40), .ref (g 41), .ref (g 42), .ref (g 43)])), (g 40, .inl (cI, 512, .inl c40)), (g 41, .inl (cI, 512, .inl c41)), (g 42, .inl (cI, 512, .inl c42)), (g 43, .inl (cI, 512, .inl c43))] : va_W) := d_list (show ((([(g 10, .inr (10, [.int (nI jn), .ref (g 11), .ref (g 12), .ref (g 13), .ref (g 15), .ref (g 16), .ref (g 17), .ref (g 18)])), (g 16, .inr (9, [.ref (g 40), .ref (g 41), .ref (g 42), .ref (g 43)])), (g 40, .inl (cI, 512, .inl c40)), (g 41, .inl (cI, 512, .inl c41)), (g 42, .inl (cI, 512, .inl c42)), (g 43, .inl (cI, 512, .inl c43))] : va_W)).map Prod.fst).Nodup from sg_nd hG [10, 16, 40, 41, 42, 43] (by decide) (by decide))
  have hFw : ∀ q, va_A ([(g 10, .inr (10, [.int (nI jn), .ref (g 11), .ref (g 12), .ref (g 13), .ref (g 15), .ref (g 16), .ref (g 17), .ref (g 18)])), (g 16, .inr (9, [.ref (g 40), .ref (g 41), .ref (g 42), .ref (g 43)])), (g 40, .inl (cI, 512, .inl c40)), (g 41, .inl (cI, 512, .inl c41)), (g 42, .inl (cI, 512, .inl c42)), (g 43, .inl (cI, 512, .inl c43))] : va_W) H.size q → A q := fun q h => by
    rcases h with ⟨k9, e9, z⟩ | z
    · obtain ⟨k8, hk8⟩ := pl_at (f := f) (hq9 (q, e9) (List.mem_of_getElem? z)).1
      exact hD1.2 k8 _ hk8
    · exact hA q (Nat.le_trans hS.1 z)
  have hNw : ∀ (k9 : Nat) (q9 : Nat × va_E), (mX mm q jn cI x0 x1 x2 x3 x4 x5 x6 x7 x8 x9 x10 x11 x12 x13 x14 x15 x16 x17 x18 x19 x20 f0 f1 f2 f3 f4 f5 f6 f7 f8 f9 f10 f11 f12 f13 f14 f15 f16 f17 f18 f19 f20 f21 f22 f23 f24)[k9]? = some q9 → ¬ va_A ([(g 10, .inr (10, [.int (nI jn), .ref (g 11), .ref (g 12), .ref (g 13), .ref (g 15), .ref (g 16), .ref (g 17), .ref (g 18)])), (g 16, .inr (9, [.ref (g 40), .ref (g 41), .ref (g 42), .ref (g 43)])), (g 40, .inl (cI, 512, .inl c40)), (g 41, .inl (cI, 512, .inl c41)), (g 42, .inl (cI, 512, .inl c42)), (g 43, .inl (cI, 512, .inl c43))] : va_W) H.size q9.1 := by
    rintro k9 q9 hq8 (⟨k7, e7, z⟩ | z)
    · exact hap k9 q9 hq8 (hq9 (q9.1, e7) (List.mem_of_getElem? z)).1
    · exact absurd (hP k9 q9 hq8).lt (Nat.not_lt.mpr z)
  refine call_fr (va_runV (As := [.int (xs (k + 1)), .int (xs (k + 2)), .int (xs (k + 3))]) (rest := []) ⟨hx, hb, hml, hown, hts⟩ (c_way l D cI cR cM _ (xs (k + 1)) (xs (k + 2)) (xs (k + 3)) (g 10) (.int (nI jn)) (.ref (g 11)) (.ref (g 12)) (.ref (g 13)) (.ref (g 15)) (.ref (g 17)) (.ref (g 18)) (g 16) (g 40) (g 41) (g 42) (g 43) c40 c41 c42 c43) (cwV 3 hts gL_law_X10_way rfl rfl rfl (by decide +kernel) ⟨Nat.le_of_ble_eq_true rfl, Nat.le_of_ble_eq_true rfl⟩) (pre_V hK hPc hDc 0 10 rfl rfl) rfl rfl hl.1 rfl (lv_room (Nat.le_of_ble_eq_true rfl)) dL_law_643 ⟨by omega, by omega⟩) hFw hS (fun u1 H1 locs1 hw hPw hDw hkw hS1 => ?_)
  obtain ⟨r1, v1, v2, v3, v4⟩ := u1
  have hw1 : WA (xs (k + 1)) (xs (k + 2)) (xs (k + 3)) r1 := hw
  obtain ⟨fc1, hf1, ho1, hP1, hD1⟩ := pl_join hP1 hD1 (w1 := ([(g 10, .inr (10, [.int (nI jn), .ref (g 11), .ref (g 12), .ref (g 13), .ref (g 15), .ref (g 16), .ref (g 17), .ref (g 18)])), (g 16, .inr (9, [.ref (g 40), .ref (g 41), .ref (g 42), .ref (g 43)])), (g 40, .inl (cI, 512, .inl v1)), (g 41, .inl (cI, 512, .inl v2)), (g 42, .inl (cI, 512, .inl v3)), (g 43, .inl (cI, 512, .inl v4))] : va_W)) (wc := ([(g 10, .inr (10, [.int (nI jn), .ref (g 11), .ref (g 12), .ref (g 13), .ref (g 15), .ref (g 16), .ref (g 17), .ref (g 18)])), (g 16, .inr (9, [.ref (g 40), .ref (g 41), .ref (g 42), .ref (g 43)])), (g 40, .inl (cI, 512, .inl c40)), (g 41, .inl (cI, 512, .inl c41)), (g 42, .inl (cI, 512, .inl c42)), (g 43, .inl (cI, 512, .inl c43))] : va_W)) rfl hPw hDw hkw
  have hF1 : FR S [10, 16, 40, 41, 42, 43] f fc1 := fun b9 hb9 => ho1 b9 (fun h9 => hb9 (sg_in hG h9 (ks := [10, 16, 40, 41, 42, 43]) (by decide) (by decide)))
  have hI1 := IN_at (ks := [10, 16, 40, 41, 42, 43]) hI ho1 (List.forall_mem_cons.mpr ⟨ok_at (gs_10 hG) (hf1 _ (List.mem_cons_self ..)) mk_10, List.forall_mem_cons.mpr ⟨ok_at (gs_16 hG) (hf1 _ (List.mem_cons_of_mem _ (List.mem_cons_self ..))) mk_16, List.forall_mem_cons.mpr ⟨ok_at (gs_40 hG) (hf1 _ (List.mem_cons_of_mem _ (List.mem_cons_of_mem _ (List.mem_cons_self ..)))) mk_40, List.forall_mem_cons.mpr ⟨ok_at (gs_41 hG) (hf1 _ (List.mem_cons_of_mem _ (List.mem_cons_of_mem _ (List.mem_cons_of_mem _ (List.mem_cons_self ..))))) mk_41, List.forall_mem_cons.mpr ⟨ok_at (gs_42 hG) (hf1 _ (List.mem_cons_of_mem _ (List.mem_cons_of_mem _ (List.mem_cons_of_mem _ (List.mem_cons_of_mem _ (List.mem_cons_self ..)))))) mk_42, List.forall_mem_cons.mpr ⟨ok_at (gs_43 hG) (hf1 _ (List.mem_cons_of_mem _ (List.mem_cons_of_mem _ (List.mem_cons_of_mem _ (List.mem_cons_of_mem _ (List.mem_cons_of_mem _ (List.mem_cons_self ..))))))) mk_43, fun _ h9 => absurd h9 (List.not_mem_nil)⟩⟩⟩⟩⟩⟩)
  have J : CS jn cI cR cM D g A L S fc1 H1 := ⟨hG, hI1, fun e9 => TK_tags hG hF1 (by decide) (by decide) (by decide) (hTK e9), hP1, hD1⟩
  have hLK := LKx_fr hLK hG hF1 (by decide)
  have hSX := SCx_fr hSX hG hF1 (by decide)
  have hP := hP.kept (fun k9 q9 hq8 => hkw q9.1 (hP k9 q9 hq8).lt (hNw k9 q9 hq8))
  have hS := hS1
  refine lv_pop hx hb dL_law_646 rfl ?_
  refine lv_aload_n hx hb dL_law_647 rfl (lv_at hl 2 rfl) ?_
  refine lv_aload_n hx hb dL_law_648 rfl (lv_at hl 0 rfl) ?_
  refine lv_iload_n hx hb dL_law_649 rfl (lv_at hl 3 rfl) ?_
  refine lv_iconst (v := 1) hx hb dL_law_650 (by decide) ?_
  refine lv_eqi (y := nI 1) rfl ?_
  refine lv_iadd hx hb dL_law_651 ?_
  refine lv_eqi (y := nI (k + 1)) (nI_add _ _) ?_
  refine va_sld hx hb hX hbl hbA hS (vp_in_nI (n := k + 1) (by omega) (by omega)) dL_law_652 ?_
  refine lv_eqi (y := xs (k + 1)) (congrArg xs (nI_clamp (by omega))) ?_
  refine lv_aload_n hx hb dL_law_653 rfl (lv_at hl 0 rfl) ?_
  refine lv_iload_n hx hb dL_law_654 rfl (lv_at hl 3 rfl) ?_
  refine lv_iconst (v := 2) hx hb dL_law_655 (by decide) ?_
  refine lv_eqi (y := nI 2) rfl ?_
  refine lv_iadd hx hb dL_law_656 ?_
  refine lv_eqi (y := nI (k + 2)) (nI_add _ _) ?_
  refine va_sld hx hb hX hbl hbA hS (vp_in_nI (n := k + 2) (by omega) (by omega)) dL_law_657 ?_
  refine lv_eqi (y := xs (k + 2)) (congrArg xs (nI_clamp (by omega))) ?_
  refine lv_aload_n hx hb dL_law_658 rfl (lv_at hl 0 rfl) ?_
  refine lv_iload_n hx hb dL_law_659 rfl (lv_at hl 3 rfl) ?_
  refine lv_iconst (v := 3) hx hb dL_law_660 (by decide) ?_
  refine lv_eqi (y := nI 3) rfl ?_
  refine lv_iadd hx hb dL_law_661 ?_
  refine lv_eqi (y := nI (k + 3)) (nI_add _ _) ?_
  refine va_sld hx hb hX hbl hbA hS (vp_in_nI (n := k + 3) (by omega) (by omega)) dL_law_662 ?_
  refine lv_eqi (y := xs (k + 3)) (congrArg xs (nI_clamp (by omega))) ?_
  have hPc := hP.sub (ws' := [(mm, .inr (11, mXF q jn x0 x1 x2 x3 x4 x5 x6 x7 x8 x9 x10 x11 x12 x13 x14 x15 x16 x17 x18 x19 x20)), (q 17, .inl (cI, 512, .inl f17)), (q 18, .inl (cI, 512, .inl f18))]) [0, 18, 19] (by with_unfolding_all rfl)
  have hDc := hD.sub (ws' := [(mm, .inr (11, mXF q jn x0 x1 x2 x3 x4 x5 x6 x7 x8 x9 x10 x11 x12 x13 x14 x15 x16 x17 x18 x19 x20)), (q 17, .inl (cI, 512, .inl f17)), (q 18, .inl (cI, 512, .inl f18))]) [0, 18, 19] (by decide) (by with_unfolding_all rfl)
  refine law_ms (wr := [(q 0, .inl (cI, 73200, .inl f0)), (q 1, .inl (cI, 488, .inl f1)), (q 2, .inl (cI, 300, .inl f2)), (q 3, .inl (cI, 2400, .inl f3)), (q 4, .inl (cI, 6, .inl f4)), (q 5, .inl (cI, 6, .inl f5)), (q 6, .inl (cI, 7, .inl f6)), (q 7, .inl (cI, 144, .inl f7)), (q 8, .inl (cI, 8, .inl f8)), (q 9, .inl (cI, 1152, .inl f9)), (q 10, .inl (cI, 8, .inl f10)), (q 11, .inl (cI, 8, .inl f11)), (q 12, .inl (cI, 72, .inl f12)), (q 13, .inl (cI, 144, .inl f13)), (q 14, .inl (cI, 144, .inl f14)), (q 15, .inl (cI, 144, .inl f15)), (q 16, .inl (cI, 6, .inl f16)), (q 19, .inl (cI, 11, .inl f19)), (q 20, .inl (cI, 11, .inl f20)), (q 21, .inl (cI, 300, .inl f21)), (q 22, .inl (cI, 300, .inl f22)), (q 23, .inl (cI, 8, .inl f23)), (q 24, .inl (cI, 8, .inl f24))]) (va_runV (As := [.int (xs (k + 1)), .int (xs (k + 2)), .int (xs (k + 3))]) (rest := []) ⟨hx, hb, hml, hown, hts⟩ (c_mway l D cI cR cM _ (xs (k + 1)) (xs (k + 2)) (xs (k + 3)) mm (mXF q jn x0 x1 x2 x3 x4 x5 x6 x7 x8 x9 x10 x11 x12 x13 x14 x15 x16 x17 x18 x19 x20) (q 17) (q 18) rfl rfl f17 f18 hwt) (cwV 3 hts gL_law_X11_way rfl rfl rfl (by decide +kernel) ⟨Nat.le_of_ble_eq_true rfl, Nat.le_of_ble_eq_true rfl⟩) (pre_V hK hPc hDc 0 11 rfl rfl) rfl rfl hl.1 rfl (lv_room (Nat.le_of_ble_eq_true rfl)) dL_law_663 ⟨by omega, by omega⟩) J hP hD hap hS hA [0, 18, 19] [1, 2, 3, 4, 5, 6, 7, 8, 9, 10, 11, 12, 13, 14, 15, 16, 17, 20, 21, 22, 23, 24, 25] (by with_unfolding_all rfl) (by with_unfolding_all rfl) (by decide) (by decide) (fun u2 H locs hw J hP hD hap hS => ?_)
  obtain ⟨r2, fa2, wt2⟩ := u2
  obtain ⟨hw2, hwt_2⟩ : WA (xs (k + 1)) (xs (k + 2)) (xs (k + 3)) r2 ∧ ∀ j, j < 512 → wt2 j = 0 := hw
  have hP : va_P D vwCl (mX mm q jn cI x0 x1 x2 x3 x4 x5 x6 x7 x8 x9 x10 x11 x12 x13 x14 x15 x16 x17 x18 x19 x20 f0 f1 f2 f3 f4 f5 f6 f7 f8 f9 f10 f11 f12 f13 f14 f15 f16 fa2 wt2 f19 f20 f21 f22 f23 f24) H := hP.sub [23, 0, 1, 2, 3, 4, 5, 6, 7, 8, 9, 10, 11, 12, 13, 14, 15, 16, 24, 25, 17, 18, 19, 20, 21, 22] (by with_unfolding_all rfl)
  have hD : va_D A (mX mm q jn cI x0 x1 x2 x3 x4 x5 x6 x7 x8 x9 x10 x11 x12 x13 x14 x15 x16 x17 x18 x19 x20 f0 f1 f2 f3 f4 f5 f6 f7 f8 f9 f10 f11 f12 f13 f14 f15 f16 fa2 wt2 f19 f20 f21 f22 f23 f24) := hD.sub [23, 0, 1, 2, 3, 4, 5, 6, 7, 8, 9, 10, 11, 12, 13, 14, 15, 16, 24, 25, 17, 18, 19, 20, 21, 22] (by decide) (by with_unfolding_all rfl)
  have hap : AP L (mX mm q jn cI x0 x1 x2 x3 x4 x5 x6 x7 x8 x9 x10 x11 x12 x13 x14 x15 x16 x17 x18 x19 x20 f0 f1 f2 f3 f4 f5 f6 f7 f8 f9 f10 f11 f12 f13 f14 f15 f16 fa2 wt2 f19 f20 f21 f22 f23 f24) := AP_sub hap [23, 0, 1, 2, 3, 4, 5, 6, 7, 8, 9, 10, 11, 12, 13, 14, 15, 16, 24, 25, 17, 18, 19, 20, 21, 22] (by with_unfolding_all rfl)
  refine lv_pop hx hb dL_law_666 rfl ?_
  refine lv_goto (tgt := 947) hx hb dL_law_667 (by decide) ?_
  refine W.widen (k := N9 + 18) (n := M9 + 1193) (by omega) (by omega) ?_
  exact hend _ _ _ ⟨L, S, fc1, x0, x1, x2, x3, x4, x5, x6, x7, x8, x9, x10, x11, x12, x13, x14, x15, x16, x17, x18, x19, x20, f0, f1, f2, f3, f4, f5, f6, f7, f8, f9, f10, f11, f12, f13, f14, f15, f16, fa2, wt2, f19, f20, f21, f22, f23, f24, J, hP, hD, hap, hLK, hSX, ⟨(by first | assumption | omega), (by first | assumption | omega), (by first | assumption | omega), (by first | assumption | omega), (by first | assumption | omega), (by first | assumption | omega), (by first | assumption | omega), (by first | assumption | omega), (by first | assumption | omega), (by first | assumption | omega), (by first | assumption | omega)⟩⟩ hS hl
set_option maxRecDepth 100000 in
set_option maxHeartbeats 4000000 in
theorem law_c14 {p : Program} {l : Launch} {e : Env} {s : State} {m : MethodId} {below : List Frame} {meth : Method} {c : Code} {b n9 : Nat} {xs : Nat → Int32} {A : Nat → Prop} {D : va_G} {cI cR cM : ClassId} {jn mm k N9 M9 : Nat} {g q : Nat → Nat} {H : Heap} {locs : List Loc} {ls : Array Slot} {adK adV : Nat → Nat} (C : LC p s m meth c b n9 xs A D cI cR cM) (hST : ST adK adV s.heap.size s) (hj : 1 ≤ jn ∧ jn ≤ 3) (hk : k + 5 < n9) (hn9 : n9 ≤ 3073) (hN9 : N9 + 18 ≤ room_1.cells) (hM9 : M9 + 1193 ≤ room_1.slots) (J : JS jn cI cR cM D g A mm q H) (hS : va_S A s.heap H locs) (hl : lv_has ls 4 [(0, .ref b), (1, .ref (g 10)), (2, .ref mm), (3, .int (nI k))]) (hend : ∀ (H1 : Heap) (locs1 : List Loc) (ls1 : Array Slot), JS jn cI cR cM D g A mm q H1 → va_S A s.heap H1 locs1 → lv_has ls1 4 [(0, .ref b), (1, .ref (g 10)), (2, .ref mm), (3, .int (nI k))] → W p l e room_1 s m #[Value.ref b] below meth c H1 locs1 (N9 + 18) (M9 + 1193) (lw_Z below #[Value.ref b] s) (F0 m 947 ls1 [])) : W p l e room_1 s m #[Value.ref b] below meth c H locs N9 M9 (lw_Z below #[Value.ref b] s) (F0 m 670 ls []) := by
  obtain ⟨hx, hb, hr, hml, hown, hts, hX, hbl, hlocks, hK, hA, hA2⟩ := C
  have hbA : ¬ A b := fun q => absurd (hA2 b q) (Nat.not_le.mpr hbl)
  obtain ⟨L, S, f, x0, x1, x2, x3, x4, x5, x6, x7, x8, x9, x10, x11, x12, x13, x14, x15, x16, x17, x18, x19, x20, f0, f1, f2, f3, f4, f5, f6, f7, f8, f9, f10, f11, f12, f13, f14, f15, f16, f17, f18, f19, f20, f21, f22, f23, f24, J, hP, hD, hap, hLK, hSX, h0, h1, h2, h18, hsc, hRX, hRZ, hSe, hFm, hMK, hwt⟩ := J
  have J0 := J
  obtain ⟨hG, hI, hTK, hP1, hD1⟩ := J0
  refine lv_aload_n hx hb dL_law_670 rfl (lv_at hl 1 rfl) ?_
  refine lv_aload_n hx hb dL_law_671 rfl (lv_at hl 0 rfl) ?_
  refine lv_iload_n hx hb dL_law_672 rfl (lv_at hl 3 rfl) ?_
  refine lv_iconst (v := 1) hx hb dL_law_673 (by decide) ?_
  refine lv_eqi (y := nI 1) rfl ?_
  refine lv_iadd hx hb dL_law_674 ?_
  refine lv_eqi (y := nI (k + 1)) (nI_add _ _) ?_
  refine va_sld hx hb hX hbl hbA hS (vp_in_nI (n := k + 1) (by omega) (by omega)) dL_law_675 ?_
  refine lv_eqi (y := xs (k + 1)) (congrArg xs (nI_clamp (by omega))) ?_
  refine lv_aload_n hx hb dL_law_676 rfl (lv_at hl 0 rfl) ?_
  refine lv_iload_n hx hb dL_law_677 rfl (lv_at hl 3 rfl) ?_
  refine lv_iconst (v := 2) hx hb dL_law_678 (by decide) ?_
  refine lv_eqi (y := nI 2) rfl ?_
  refine lv_iadd hx hb dL_law_679 ?_
  refine lv_eqi (y := nI (k + 2)) (nI_add _ _) ?_
  refine va_sld hx hb hX hbl hbA hS (vp_in_nI (n := k + 2) (by omega) (by omega)) dL_law_680 ?_
  refine lv_eqi (y := xs (k + 2)) (congrArg xs (nI_clamp (by omega))) ?_
  refine lv_aload_n hx hb dL_law_681 rfl (lv_at hl 0 rfl) ?_
  refine lv_iload_n hx hb dL_law_682 rfl (lv_at hl 3 rfl) ?_
  refine lv_iconst (v := 3) hx hb dL_law_683 (by decide) ?_
  refine lv_eqi (y := nI 3) rfl ?_
  refine lv_iadd hx hb dL_law_684 ?_
  refine lv_eqi (y := nI (k + 3)) (nI_add _ _) ?_
  refine va_sld hx hb hX hbl hbA hS (vp_in_nI (n := k + 3) (by omega) (by omega)) dL_law_685 ?_
  refine lv_eqi (y := xs (k + 3)) (congrArg xs (nI_clamp (by omega))) ?_
  have hq9 : ∀ q ∈ ([(g 10, .inr (10, [.int (nI jn), .ref (g 11), .ref (g 12), .ref (g 13), .ref (g 15), .ref (g 16), .ref (g 17), .ref (g 18)]))] : va_W), q.1 ∈ L ∧ f q.1 = q.2 := List.forall_mem_cons.mpr ⟨⟨gm_10 hG, hall_at hG hI⟩, fun _ h9 => absurd h9 (List.not_mem_nil)⟩
  have hPc := p_list hP1 hq9
  have hDc : va_D (fun _ => True) ([(g 10, .inr (10, [.int (nI jn), .ref (g 11), .ref (g 12), .ref (g 13), .ref (g 15), .ref (g 16), .ref (g 17), .ref (g 18)]))] : va_W) := d_list (show ((([(g 10, .inr (10, [.int (nI jn), .ref (g 11), .ref (g 12), .ref (g 13), .ref (g 15), .ref (g 16), .ref (g 17), .ref (g 18)]))] : va_W)).map Prod.fst).Nodup from sg_nd hG [10] (by decide) (by decide))
  rcases Classical.em (LIn (xs (k + 1)) (xs (k + 2)) (xs (k + 3))) with hin9 | hin9
  · obtain ⟨bits, hi, lf, hb9, hh1, hhi, hlf, e1, e2, e3⟩ := hin9
    rw [e1, e2, e3]
    refine law_re (va_runV (As := [.int (nI bits), .int (nI hi), .int (nI (lf + 1))]) (rest := []) ⟨hx, hb, hml, hown, hts⟩ (c_loops_in l D cI cR cM _ hb9 hh1 hhi hlf (g 10) (.int (nI jn)) (.ref (g 11)) (.ref (g 12)) (.ref (g 13)) (.ref (g 15)) (.ref (g 16)) (.ref (g 17)) (.ref (g 18))) (cwV 3 hts gL_law_X10_loops rfl rfl rfl (by decide +kernel) ⟨Nat.le_of_ble_eq_true rfl, Nat.le_of_ble_eq_true rfl⟩) (pre_V hK hPc hDc 0 10 rfl rfl) rfl rfl hl.1 rfl (lv_room (Nat.le_of_ble_eq_true rfl)) dL_law_686 ⟨by omega, by omega⟩) J hP hS hA (fun H locs J hP hS => ?_)
    refine lv_pop hx hb dL_law_689 rfl ?_
    refine lv_aload_n hx hb dL_law_690 rfl (lv_at hl 2 rfl) ?_
    refine lv_aload_n hx hb dL_law_691 rfl (lv_at hl 0 rfl) ?_
    refine lv_iload_n hx hb dL_law_692 rfl (lv_at hl 3 rfl) ?_
    refine lv_iconst (v := 1) hx hb dL_law_693 (by decide) ?_
    refine lv_eqi (y := nI 1) rfl ?_
    refine lv_iadd hx hb dL_law_694 ?_
    refine lv_eqi (y := nI (k + 1)) (nI_add _ _) ?_
    refine va_sld hx hb hX hbl hbA hS (vp_in_nI (n := k + 1) (by omega) (by omega)) dL_law_695 ?_
    refine lv_eqi (y := xs (k + 1)) (congrArg xs (nI_clamp (by omega))) ?_
    refine lv_aload_n hx hb dL_law_696 rfl (lv_at hl 0 rfl) ?_
    refine lv_iload_n hx hb dL_law_697 rfl (lv_at hl 3 rfl) ?_
    refine lv_iconst (v := 2) hx hb dL_law_698 (by decide) ?_
    refine lv_eqi (y := nI 2) rfl ?_
    refine lv_iadd hx hb dL_law_699 ?_
    refine lv_eqi (y := nI (k + 2)) (nI_add _ _) ?_
    refine va_sld hx hb hX hbl hbA hS (vp_in_nI (n := k + 2) (by omega) (by omega)) dL_law_700 ?_
    refine lv_eqi (y := xs (k + 2)) (congrArg xs (nI_clamp (by omega))) ?_
    refine lv_aload_n hx hb dL_law_701 rfl (lv_at hl 0 rfl) ?_
    refine lv_iload_n hx hb dL_law_702 rfl (lv_at hl 3 rfl) ?_
    refine lv_iconst (v := 3) hx hb dL_law_703 (by decide) ?_
    refine lv_eqi (y := nI 3) rfl ?_
    refine lv_iadd hx hb dL_law_704 ?_
    refine lv_eqi (y := nI (k + 3)) (nI_add _ _) ?_
    refine va_sld hx hb hX hbl hbA hS (vp_in_nI (n := k + 3) (by omega) (by omega)) dL_law_705 ?_
    refine lv_eqi (y := xs (k + 3)) (congrArg xs (nI_clamp (by omega))) ?_
    rw [e1, e2, e3]
    have hPd := hP.sub (ws' := [(mm, .inr (11, mXF q jn x0 x1 x2 x3 x4 x5 x6 x7 x8 x9 x10 x11 x12 x13 x14 x15 x16 x17 x18 x19 x20)), (q 19, .inl (cI, 11, .inl f19)), (q 20, .inl (cI, 11, .inl f20))]) [0, 20, 21] (by with_unfolding_all rfl)
    have hDd := hD.sub (ws' := [(mm, .inr (11, mXF q jn x0 x1 x2 x3 x4 x5 x6 x7 x8 x9 x10 x11 x12 x13 x14 x15 x16 x17 x18 x19 x20)), (q 19, .inl (cI, 11, .inl f19)), (q 20, .inl (cI, 11, .inl f20))]) [0, 20, 21] (by decide) (by with_unfolding_all rfl)
    refine law_ms (wr := [(q 0, .inl (cI, 73200, .inl f0)), (q 1, .inl (cI, 488, .inl f1)), (q 2, .inl (cI, 300, .inl f2)), (q 3, .inl (cI, 2400, .inl f3)), (q 4, .inl (cI, 6, .inl f4)), (q 5, .inl (cI, 6, .inl f5)), (q 6, .inl (cI, 7, .inl f6)), (q 7, .inl (cI, 144, .inl f7)), (q 8, .inl (cI, 8, .inl f8)), (q 9, .inl (cI, 1152, .inl f9)), (q 10, .inl (cI, 8, .inl f10)), (q 11, .inl (cI, 8, .inl f11)), (q 12, .inl (cI, 72, .inl f12)), (q 13, .inl (cI, 144, .inl f13)), (q 14, .inl (cI, 144, .inl f14)), (q 15, .inl (cI, 144, .inl f15)), (q 16, .inl (cI, 6, .inl f16)), (q 17, .inl (cI, 512, .inl f17)), (q 18, .inl (cI, 512, .inl f18)), (q 21, .inl (cI, 300, .inl f21)), (q 22, .inl (cI, 300, .inl f22)), (q 23, .inl (cI, 8, .inl f23)), (q 24, .inl (cI, 8, .inl f24))]) (va_runV (As := [.int (nI bits), .int (nI hi), .int (nI (lf + 1))]) (rest := []) ⟨hx, hb, hml, hown, hts⟩ (c_mloops_in l D cI cR cM _ hb9 hh1 hhi hlf mm (mXF q jn x0 x1 x2 x3 x4 x5 x6 x7 x8 x9 x10 x11 x12 x13 x14 x15 x16 x17 x18 x19 x20) (q 19) (q 20) rfl rfl f19 f20) (cwV 3 hts gL_law_X11_loops rfl rfl rfl (by decide +kernel) ⟨Nat.le_of_ble_eq_true rfl, Nat.le_of_ble_eq_true rfl⟩) (pre_V hK hPd hDd 0 11 rfl rfl) rfl rfl hl.1 rfl (lv_room (Nat.le_of_ble_eq_true rfl)) dL_law_706 ⟨by omega, by omega⟩) J hP hD hap hS hA [0, 20, 21] [1, 2, 3, 4, 5, 6, 7, 8, 9, 10, 11, 12, 13, 14, 15, 16, 17, 18, 19, 22, 23, 24, 25] (by with_unfolding_all rfl) (by with_unfolding_all rfl) (by decide) (by decide) (fun u2 H locs hw J hP hD hap hS => ?_)
    obtain ⟨wk2, tr2⟩ := u2
    have hP : va_P D vwCl (mX mm q jn cI x0 x1 x2 x3 x4 x5 x6 x7 x8 x9 x10 x11 x12 x13 x14 x15 x16 x17 x18 x19 x20 f0 f1 f2 f3 f4 f5 f6 f7 f8 f9 f10 f11 f12 f13 f14 f15 f16 f17 f18 wk2 tr2 f21 f22 f23 f24) H := hP.sub [23, 0, 1, 2, 3, 4, 5, 6, 7, 8, 9, 10, 11, 12, 13, 14, 15, 16, 17, 18, 24, 25, 19, 20, 21, 22] (by with_unfolding_all rfl)
    have hD : va_D A (mX mm q jn cI x0 x1 x2 x3 x4 x5 x6 x7 x8 x9 x10 x11 x12 x13 x14 x15 x16 x17 x18 x19 x20 f0 f1 f2 f3 f4 f5 f6 f7 f8 f9 f10 f11 f12 f13 f14 f15 f16 f17 f18 wk2 tr2 f21 f22 f23 f24) := hD.sub [23, 0, 1, 2, 3, 4, 5, 6, 7, 8, 9, 10, 11, 12, 13, 14, 15, 16, 17, 18, 24, 25, 19, 20, 21, 22] (by decide) (by with_unfolding_all rfl)
    have hap : AP L (mX mm q jn cI x0 x1 x2 x3 x4 x5 x6 x7 x8 x9 x10 x11 x12 x13 x14 x15 x16 x17 x18 x19 x20 f0 f1 f2 f3 f4 f5 f6 f7 f8 f9 f10 f11 f12 f13 f14 f15 f16 f17 f18 wk2 tr2 f21 f22 f23 f24) := AP_sub hap [23, 0, 1, 2, 3, 4, 5, 6, 7, 8, 9, 10, 11, 12, 13, 14, 15, 16, 17, 18, 24, 25, 19, 20, 21, 22] (by with_unfolding_all rfl)
    refine lv_pop hx hb dL_law_709 rfl ?_
    refine lv_goto (tgt := 947) hx hb dL_law_710 (by decide) ?_
    refine W.widen (k := N9 + 18) (n := M9 + 1193) (by omega) (by omega) ?_
    exact hend _ _ _ ⟨L, S, f, x0, x1, x2, x3, x4, x5, x6, x7, x8, x9, x10, x11, x12, x13, x14, x15, x16, x17, x18, x19, x20, f0, f1, f2, f3, f4, f5, f6, f7, f8, f9, f10, f11, f12, f13, f14, f15, f16, f17, f18, wk2, tr2, f21, f22, f23, f24, J, hP, hD, hap, hLK, hSX, ⟨(by first | assumption | omega), (by first | assumption | omega), (by first | assumption | omega), (by first | assumption | omega), (by first | assumption | omega), (by first | assumption | omega), (by first | assumption | omega), (by first | assumption | omega), (by first | assumption | omega), (by first | assumption | omega), (by first | assumption | omega)⟩⟩ hS hl
  · refine law_re (va_runV (As := [.int (xs (k + 1)), .int (xs (k + 2)), .int (xs (k + 3))]) (rest := []) ⟨hx, hb, hml, hown, hts⟩ (c_loops_out l D cI cR cM _ hin9 (g 10) (.int (nI jn)) (.ref (g 11)) (.ref (g 12)) (.ref (g 13)) (.ref (g 15)) (.ref (g 16)) (.ref (g 17)) (.ref (g 18))) (cwV 3 hts gL_law_X10_loops rfl rfl rfl (by decide +kernel) ⟨Nat.le_of_ble_eq_true rfl, Nat.le_of_ble_eq_true rfl⟩) (pre_V hK hPc hDc 0 10 rfl rfl) rfl rfl hl.1 rfl (lv_room (Nat.le_of_ble_eq_true rfl)) dL_law_686 ⟨by omega, by omega⟩) J hP hS hA (fun H locs J hP hS => ?_)
    refine lv_pop hx hb dL_law_689 rfl ?_
    refine lv_aload_n hx hb dL_law_690 rfl (lv_at hl 2 rfl) ?_
    refine lv_aload_n hx hb dL_law_691 rfl (lv_at hl 0 rfl) ?_
    refine lv_iload_n hx hb dL_law_692 rfl (lv_at hl 3 rfl) ?_
    refine lv_iconst (v := 1) hx hb dL_law_693 (by decide) ?_
    refine lv_eqi (y := nI 1) rfl ?_
    refine lv_iadd hx hb dL_law_694 ?_
    refine lv_eqi (y := nI (k + 1)) (nI_add _ _) ?_
    refine va_sld hx hb hX hbl hbA hS (vp_in_nI (n := k + 1) (by omega) (by omega)) dL_law_695 ?_
    refine lv_eqi (y := xs (k + 1)) (congrArg xs (nI_clamp (by omega))) ?_
    refine lv_aload_n hx hb dL_law_696 rfl (lv_at hl 0 rfl) ?_
    refine lv_iload_n hx hb dL_law_697 rfl (lv_at hl 3 rfl) ?_
    refine lv_iconst (v := 2) hx hb dL_law_698 (by decide) ?_
    refine lv_eqi (y := nI 2) rfl ?_
    refine lv_iadd hx hb dL_law_699 ?_
    refine lv_eqi (y := nI (k + 2)) (nI_add _ _) ?_
    refine va_sld hx hb hX hbl hbA hS (vp_in_nI (n := k + 2) (by omega) (by omega)) dL_law_700 ?_
    refine lv_eqi (y := xs (k + 2)) (congrArg xs (nI_clamp (by omega))) ?_
    refine lv_aload_n hx hb dL_law_701 rfl (lv_at hl 0 rfl) ?_
    refine lv_iload_n hx hb dL_law_702 rfl (lv_at hl 3 rfl) ?_
    refine lv_iconst (v := 3) hx hb dL_law_703 (by decide) ?_
    refine lv_eqi (y := nI 3) rfl ?_
    refine lv_iadd hx hb dL_law_704 ?_
    refine lv_eqi (y := nI (k + 3)) (nI_add _ _) ?_
    refine va_sld hx hb hX hbl hbA hS (vp_in_nI (n := k + 3) (by omega) (by omega)) dL_law_705 ?_
    refine lv_eqi (y := xs (k + 3)) (congrArg xs (nI_clamp (by omega))) ?_
    have hPd := hP.sub (ws' := [(mm, .inr (11, mXF q jn x0 x1 x2 x3 x4 x5 x6 x7 x8 x9 x10 x11 x12 x13 x14 x15 x16 x17 x18 x19 x20))]) [0] (by with_unfolding_all rfl)
    have hDd := hD.sub (ws' := [(mm, .inr (11, mXF q jn x0 x1 x2 x3 x4 x5 x6 x7 x8 x9 x10 x11 x12 x13 x14 x15 x16 x17 x18 x19 x20))]) [0] (by decide) (by with_unfolding_all rfl)
    refine law_re (va_runV (As := [.int (xs (k + 1)), .int (xs (k + 2)), .int (xs (k + 3))]) (rest := []) ⟨hx, hb, hml, hown, hts⟩ (c_mloops_out l D cI cR cM _ hin9 mm (mXF q jn x0 x1 x2 x3 x4 x5 x6 x7 x8 x9 x10 x11 x12 x13 x14 x15 x16 x17 x18 x19 x20)) (cwV 3 hts gL_law_X11_loops rfl rfl rfl (by decide +kernel) ⟨Nat.le_of_ble_eq_true rfl, Nat.le_of_ble_eq_true rfl⟩) (pre_V hK hPd hDd 0 11 rfl rfl) rfl rfl hl.1 rfl (lv_room (Nat.le_of_ble_eq_true rfl)) dL_law_706 ⟨by omega, by omega⟩) J hP hS hA (fun H locs J hP hS => ?_)
    refine lv_pop hx hb dL_law_709 rfl ?_
    refine lv_goto (tgt := 947) hx hb dL_law_710 (by decide) ?_
    refine W.widen (k := N9 + 18) (n := M9 + 1193) (by omega) (by omega) ?_
    exact hend _ _ _ ⟨L, S, f, x0, x1, x2, x3, x4, x5, x6, x7, x8, x9, x10, x11, x12, x13, x14, x15, x16, x17, x18, x19, x20, f0, f1, f2, f3, f4, f5, f6, f7, f8, f9, f10, f11, f12, f13, f14, f15, f16, f17, f18, f19, f20, f21, f22, f23, f24, J, hP, hD, hap, hLK, hSX, ⟨(by first | assumption | omega), (by first | assumption | omega), (by first | assumption | omega), (by first | assumption | omega), (by first | assumption | omega), (by first | assumption | omega), (by first | assumption | omega), (by first | assumption | omega), (by first | assumption | omega), (by first | assumption | omega), (by first | assumption | omega)⟩⟩ hS hl
