theorem dL_law_234 : decode cL_law 234 = .ok (.aload_n 1, 1) := by decide +kernel
theorem dL_law_235 : decode cL_law 235 = .ok (.invokevirtual 31, 3) := by decide +kernel
theorem dL_law_238 : decode cL_law 238 = .ok (.pop, 1) := by decide +kernel
theorem dL_law_239 : decode cL_law 239 = .ok (.aload_n 2, 1) := by decide +kernel
theorem dL_law_240 : decode cL_law 240 = .ok (.invokevirtual 35, 3) := by decide +kernel
theorem dL_law_243 : decode cL_law 243 = .ok (.pop, 1) := by decide +kernel
theorem dL_law_244 : decode cL_law 244 = .ok (.goto 703, 3) := by decide +kernel
set_option maxRecDepth 100000 in
set_option maxHeartbeats 4000000 in
theorem ggL_law_X10_text : GoodIn wsL_law wsX10_text := goodIn_r _ [203, 31, 38, 27, 204, 205, 206, 30, 207, 208, 209, 210, 211, 34, 212, 87, 88, 86, 82, 90, 213, 214, 215, 37, 216, 217, 74, 218, 219, 220, 221, 222, 26, 223, 175, 59, 224, 225, 226, 227, 228, 229, 230, 231, 232, 233, 234, 235, 236, 237, 238, 239, 240, 241, 242, 243, 244, 245, 246, 247, 248, 249, 250, 251, 252, 253, 254, 255, 256, 257, 258, 259, 260, 261, 262, 263, 264, 265, 266, 267, 268, 269, 270, 271, 272, 273, 274, 275, 276, 277, 278, 279, 280, 281, 282, 283, 284, 285, 286, 287, 71, 72, 73, 288, 289, 290, 291, 292, 293, 294, 295, 296, 297, 298, 299, 300, 301, 302, 303, 21, 18, 22, 304, 17, 19, 305, 306, 307, 308, 309, 310, 311, 312, 313, 314, 315, 316, 317, 318, 319, 320, 321, 322, 323, 324, 325, 326, 327, 328, 329, 330, 331, 332, 333, 334, 335, 336, 337, 338, 339, 340, 341, 342, 343, 344, 345, 346, 347, 348, 349, 350, 351, 352, 353, 354, 355, 356, 357, 80, 358, 359, 360, 361, 362, 363, 364, 365, 366, 367, 368, 369, 370, 371, 372, 373, 374, 89, 375, 376, 377, 378, 379, 380, 381, 382, 383, 384, 93, 385, 386, 106, 107, 387, 388, 389, 390, 391, 392, 393, 394, 395, 91, 396, 397, 398, 399, 400, 401, 402, 403, 64, 404, 405, 406, 407, 408, 409, 410, 411, 94, 412, 413, 414, 415, 416, 104, 417, 418, 419, 420, 421, 422, 423, 424, 425, 426, 427, 428, 429, 430, 431, 432, 81, 433, 434, 435, 436, 95, 437, 438, 439, 440, 441, 442, 443, 444, 445, 446, 447, 448, 449, 450, 451, 452, 453, 454, 455, 456, 457, 458, 459, 460, 461, 462, 463, 464, 465, 466, 467, 468, 469, 470, 471, 472, 473, 474, 105, 475, 476, 477, 478, 479, 480, 481, 482, 483, 484, 485, 486, 487, 488, 489, 490, 491, 492, 493, 494, 495, 496, 497, 498, 85, 499, 500, 99, 501, 502, 503, 504, 505, 506, 507, 508, 66, 509, 510, 511, 512, 513, 514, 515, 92, 516, 101, 102, 103, 14, 15, 58, 517, 518, 519, 520, 521, 522, 523, 524, 525, 526, 84, 527, 96, 97, 98, 528, 529, 530, 531, 532, 1100, 1101, 1102, 1103, 1104, 1105, 1106, 1107, 1155, 1156, 1157, 1158, 1159, 1160, 1161, 1162, 1163, 1164, 1165, 1166, 1167, 1168, 1169, 1170, 1171, 1200, 1201, 1202, 1203, 1204, 1205, 1172, 1173, 1174, 1175, 1176, 1177, 1178, 1179, 1180, 1181] (by with_unfolding_all rfl) (by decide +kernel)
set_option maxRecDepth 20000 in
theorem gL_law_X10_text : GoodIn wsL_law (wsV RL 31 RX10 yX10_text wsX10_text) := goodIn_app (goodIn_of _ (by decide +kernel)) ggL_law_X10_text
set_option maxRecDepth 100000 in
set_option maxHeartbeats 4000000 in
theorem ggL_law_X11_text : GoodIn wsL_law wsX11_text := goodIn_r _ [536, 537, 142, 538, 143, 184, 539, 139, 149, 150, 140, 151, 540, 541, 542, 5, 543, 544, 545, 546, 547, 548, 549, 550, 551, 552, 553, 554, 555, 141, 556, 557, 558, 197, 198, 199, 559, 560, 561, 562, 563, 564, 565, 566, 567, 568, 569, 570, 571, 572, 573, 574, 144, 575, 576, 577, 578, 579, 580, 581, 582, 583, 147, 584, 585, 586, 587, 588, 589, 590, 591, 592, 593, 594, 595, 596, 145, 146, 597, 598, 599, 600, 166, 601, 602, 603, 604, 148, 605, 606, 607, 608, 609, 610, 611, 612, 613, 614, 615, 616, 617, 618, 619, 620, 621, 622, 623, 624, 625, 626, 627, 628, 629, 630, 631, 632, 633, 634, 635, 636, 637, 638, 639, 640, 641, 642, 643, 644, 645, 646, 647, 648, 649, 650, 651, 152, 1108, 1109, 1110, 1111, 1112, 1113, 1114, 1115, 1116, 1117, 1118, 1119, 1120, 1121, 1122, 1123, 1124, 1125, 1126, 1127, 1128, 1129, 1130, 1131, 1132, 1133, 1134, 1135, 1136, 1137, 1138, 1139, 1140, 1141, 1142, 1143, 1144, 1145, 1146, 1147, 1148, 1149, 1150, 1151, 1152, 1153, 1154] (by with_unfolding_all rfl) (by decide +kernel)
set_option maxRecDepth 20000 in
theorem gL_law_X11_text : GoodIn wsL_law (wsV RL 35 RX11 yX11_text wsX11_text) := goodIn_app (goodIn_of _ (by decide +kernel)) ggL_law_X11_text
set_option maxRecDepth 100000 in
set_option maxHeartbeats 4000000 in
theorem law_c2 {p : Program} {l : Launch} {e : Env} {s : State} {m : MethodId} {below : List Frame} {meth : Method} {c : Code} {b n9 : Nat} {xs : Nat → Int32} {A : Nat → Prop} {D : va_G} {cI cR cM : ClassId} {jn mm k N9 M9 : Nat} {g q : Nat → Nat} {H : Heap} {locs : List Loc} {ls : Array Slot} {adK adV : Nat → Nat} (C : LC p s m meth c b n9 xs A D cI cR cM) (hST : ST adK adV s.heap.size s) (hj : 1 ≤ jn ∧ jn ≤ 3) (hk : k + 5 < n9) (hn9 : n9 ≤ 3073) (hN9 : N9 + 18 ≤ room_1.cells) (hM9 : M9 + 1193 ≤ room_1.slots) (J : JS jn cI cR cM D g A mm q H) (hS : va_S A s.heap H locs) (hl : lv_has ls 4 [(0, .ref b), (1, .ref (g 10)), (2, .ref mm), (3, .int (nI k))]) (hend : ∀ (H1 : Heap) (locs1 : List Loc) (ls1 : Array Slot), JS jn cI cR cM D g A mm q H1 → va_S A s.heap H1 locs1 → lv_has ls1 4 [(0, .ref b), (1, .ref (g 10)), (2, .ref mm), (3, .int (nI k))] → W p l e room_1 s m #[Value.ref b] below meth c H1 locs1 (N9 + 18) (M9 + 1193) (lw_Z below #[Value.ref b] s) (F0 m 947 ls1 [])) : W p l e room_1 s m #[Value.ref b] below meth c H locs N9 M9 (lw_Z below #[Value.ref b] s) (F0 m 234 ls []) := by
  obtain ⟨hx, hb, hr, hml, hown, hts, hX, hbl, hlocks, hK, hA, hA2⟩ := C
  have hbA : ¬ A b := fun q => absurd (hA2 b q) (Nat.not_le.mpr hbl)
  obtain ⟨L, S, f, x0, x1, x2, x3, x4, x5, x6, x7, x8, x9, x10, x11, x12, x13, x14, x15, x16, x17, x18, x19, x20, f0, f1, f2, f3, f4, f5, f6, f7, f8, f9, f10, f11, f12, f13, f14, f15, f16, f17, f18, f19, f20, f21, f22, f23, f24, J, hP, hD, hap, hLK, hSX, h0, h1, h2, h18, hsc, hRX, hRZ, hSe, hFm, hMK, hwt⟩ := J
  have J0 := J
  obtain ⟨hG, hI, hTK, hP1, hD1⟩ := J0
  refine lv_aload_n hx hb dL_law_234 rfl (lv_at hl 1 rfl) ?_
  by_cases hj1 : jn = 1
  · obtain ⟨lv, gr, Ev, cb, hcl, hRf, hEO, hRz, hTp⟩ := hLK hj1
    have hBL : ∀ a, a ∈ L → s.heap.size ≤ a := fun a ha => by
      obtain ⟨k9, hk9⟩ := pl_at (f := f) ha
      exact hA2 a (hD1.2 k9 _ hk9)
    obtain ⟨P, ks, vs, hSM⟩ := SM_ex f2 x2.toInt
    have hSMc : SM (sE cb x2.toInt) P ks vs := by rw [sE_e hTp]; exact hSM
    refine law_n (va_runV (As := []) (rest := []) ⟨hx, hb, hml, hown, hts⟩ (t_X10_textm l D cI cR cM _ (lv := lv) (gr := gr) (Ev := Ev) (cb := cb) (n9 := x2.toInt) (T9 := x0.toInt) (lk9 := x1.toInt) (P := P) (ks := ks) (vs := vs) hj hG hI hBL hj1 hcl hSMc h2 h0 (hEO _ h0.1 (Int.le_refl _))) (cwV 0 hts gL_law_X10_text rfl rfl rfl (by decide +kernel) ⟨Nat.le_of_ble_eq_true rfl, Nat.le_of_ble_eq_true rfl⟩) (pre_TS hK hST hS hA2 hP1 hD1 (gm_10 hG) (hall_at hG hI) rfl) rfl rfl hl.1 rfl (lv_room (Nat.le_of_ble_eq_true rfl)) dL_law_235 ⟨by omega, by omega⟩) (fun _ hu => ⟨hu.1, hu.2.1, fun e9 => absurd hj1 e9⟩) J hP hap hS hA (fun r1 L1 S1 fc1 H locs hu1 J hP hap hS => ?_)
    refine lv_pop hx hb dL_law_238 rfl ?_
    refine lv_aload_n hx hb dL_law_239 rfl (lv_at hl 2 rfl) ?_
    refine law_ms (wr := []) (va_runV (As := []) (rest := []) ⟨hx, hb, hml, hown, hts⟩ (k_text3 l D cI cR cM _ (P := P) (ks := ks) (vs := vs) (Ev := Ev) (by first | assumption | omega) (by first | assumption | omega) (by first | assumption | omega) (by first | assumption | omega) (by first | assumption | omega) (by first | assumption | omega) (by first | assumption | omega) (by first | assumption | omega) (by first | assumption | omega) (by first | assumption | omega) (by first | assumption | omega) (by first | assumption | omega) (by first | assumption | omega)) (cwV 0 hts gL_law_X11_text rfl rfl rfl (by decide +kernel) ⟨Nat.le_of_ble_eq_true rfl, Nat.le_of_ble_eq_true rfl⟩) (pre_V hK hP hD 0 11 rfl rfl) rfl rfl hl.1 rfl (lv_room (Nat.le_of_ble_eq_true rfl)) dL_law_240 ⟨by omega, by omega⟩) J hP hD hap hS hA [0, 1, 2, 3, 4, 5, 6, 7, 8, 9, 10, 11, 12, 13, 14, 15, 16, 17, 18, 19, 20, 21, 22, 23, 24, 25] [] (by with_unfolding_all rfl) rfl (by decide) (by decide) (fun u2 H locs hw J hP hD hap hS => ?_)
    obtain ⟨r2, y0_2, y1_2, y2_2, y3_2, y4_2, y5_2, y6_2, y7_2, y8_2, y9_2, y10_2, y11_2, y12_2, y13_2, y14_2, g0_2, g1_2, g3_2, g4_2, g5_2, g6_2, g7_2, g8_2, g9_2, g10_2, g11_2⟩ := u2
    have hP : va_P D vwCl (mX mm q jn cI y0_2 y1_2 y2_2 y3_2 y4_2 y5_2 y6_2 y7_2 y8_2 y9_2 y10_2 y11_2 y12_2 y13_2 y14_2 x15 x16 x17 x18 x19 x20 g0_2 g1_2 f2 g3_2 g4_2 g5_2 g6_2 g7_2 g8_2 g9_2 g10_2 g11_2 f12 f13 f14 f15 f16 f17 f18 f19 f20 f21 f22 f23 f24) H := hP
    have hD : va_D A (mX mm q jn cI y0_2 y1_2 y2_2 y3_2 y4_2 y5_2 y6_2 y7_2 y8_2 y9_2 y10_2 y11_2 y12_2 y13_2 y14_2 x15 x16 x17 x18 x19 x20 g0_2 g1_2 f2 g3_2 g4_2 g5_2 g6_2 g7_2 g8_2 g9_2 g10_2 g11_2 f12 f13 f14 f15 f16 f17 f18 f19 f20 f21 f22 f23 f24) := hD
    have hap : AP L1 (mX mm q jn cI y0_2 y1_2 y2_2 y3_2 y4_2 y5_2 y6_2 y7_2 y8_2 y9_2 y10_2 y11_2 y12_2 y13_2 y14_2 x15 x16 x17 x18 x19 x20 g0_2 g1_2 f2 g3_2 g4_2 g5_2 g6_2 g7_2 g8_2 g9_2 g10_2 g11_2 f12 f13 f14 f15 f16 f17 f18 f19 f20 f21 f22 f23 f24) := hap
    obtain ⟨h0_2, ht_2, hR_2, hRZ_2, hSe_2, hM_2, hFm_2, h1_2, hF_2⟩ : (0 ≤ y0_2.toInt ∧ y0_2.toInt ≤ 60) ∧ (0 ≤ y2_2.toInt ∧ y2_2.toInt ≤ 300) ∧ (RowsX jn g0_2) ∧ (RowsZ jn g0_2) ∧ (SeenX g1_2) ∧ (MK g11_2) ∧ (FM g10_2) ∧ (0 ≤ y1_2.toInt ∧ y1_2.toInt ≤ y0_2.toInt) ∧ (Hd ((x0.toInt = 60 ∧ r2.toInt = -1 ∧ y0_2 = x0 ∧ y1_2 = x1 ∧ y2_2 = x2 ∧ g0_2 = f0) ∨ (x0.toInt < 60 ∧ y2_2.toInt = 0 ∧ y0_2 = x0 ∧ y1_2 = x1 ∧ g0_2 = f0 ∧ TFls ks vs (0, Ev x0.toInt, fun _ => 0)) ∨ (x0.toInt < 60 ∧ y2_2.toInt = 0 ∧ y0_2.toInt = x0.toInt + 1 ∧ y1_2 = y0_2 ∧ ∃ (i9 : Nat) (E9 : Env1) (F9 : Int → Int), TWel ks vs (0, Ev x0.toInt, fun _ => 0) (i9, E9, F9) ∧ RefR g0_2 (x0.toInt + 1) (evp Ev (x0.toInt + 1) E9) ∧ EOk E9 ∧ ∀ i9 : Int, 150 * (8 * (x0.toInt + 2)) ≤ i9 → g0_2 i9.toNat = f0 i9.toNat))) := hw
    have hSX := SCx_frx hSX hG hu1.2.2.1 (by decide)
    have hLK : LKx jn cI cR g L1 S1 fc1 y0_2 y1_2 y2_2 g0_2 f2 := fun _ => by
      rcases hu1.2.2.2 with ⟨a1, a2⟩ | ⟨a1, a2, a3⟩ | ⟨a1, i9, E9, F9, a2, a3, a4⟩ <;> rcases hF_2 with ⟨b1, b2, b3, b4, b5, b6⟩ | ⟨b1, b2, b3, b4, b5, b6⟩ | ⟨b1, b2, b3, b4, i8, E8, F8, b5, b6, b7, b8⟩
      · rw [b3, b4, b5, b6]; exact ⟨lv, gr, Ev, cb, a2, hRf, hEO, hRz, hTp⟩
      · exfalso; omega
      · exfalso; omega
      · exfalso; omega
      · rw [b3, b4, b5]; exact ⟨lv, gr, Ev, cb, by rw [b2]; exact a3, hRf, hEO, hRz, by rw [b2]; exact fun i9 h8 h9 => absurd h9 (by omega)⟩
      · exact (TWel_F b5 a2).elim
      · exfalso; omega
      · exact (TWel_F a2 b6).elim
      · have e9 := TWel_u a2 b5
        cases e9
        rw [b4]
        refine ⟨lv, gr, evp Ev (x0.toInt + 1) E9, cb, by rw [b3, b2]; exact a4, by rw [b3]; exact b6, fun t9 h8 h9 => ?_, by rw [b3]; exact refz_text hRz h0.1 b8, by rw [b2]; exact fun i9 h8 h9 => absurd h9 (by omega)⟩
        by_cases e : t9 = x0.toInt + 1
        · rw [e, ev_s]; exact a3
        · rw [ev_n e]; exact hEO t9 h8 (by omega)
    refine lv_pop hx hb dL_law_243 rfl ?_
    refine lv_goto (tgt := 947) hx hb dL_law_244 (by decide) ?_
    refine W.widen (k := N9 + 18) (n := M9 + 1193) (by omega) (by omega) ?_
    exact hend _ _ _ ⟨L1, S1, fc1, y0_2, y1_2, y2_2, y3_2, y4_2, y5_2, y6_2, y7_2, y8_2, y9_2, y10_2, y11_2, y12_2, y13_2, y14_2, x15, x16, x17, x18, x19, x20, g0_2, g1_2, f2, g3_2, g4_2, g5_2, g6_2, g7_2, g8_2, g9_2, g10_2, g11_2, f12, f13, f14, f15, f16, f17, f18, f19, f20, f21, f22, f23, f24, J, hP, hD, hap, hLK, hSX, ⟨(by first | assumption | omega), (by first | assumption | omega), (by first | assumption | omega), (by first | assumption | omega), (by first | assumption | omega), (by first | assumption | omega), (by first | assumption | omega), (by first | assumption | omega), (by first | assumption | omega), (by first | assumption | omega), (by first | assumption | omega)⟩⟩ hS hl
  · have hBL : ∀ a, a ∈ L → s.heap.size ≤ a := fun a ha => by
      obtain ⟨k9, hk9⟩ := pl_at (f := f) ha
      exact hA2 a (hD1.2 k9 _ hk9)
    refine law_n (va_runV (As := []) (rest := []) ⟨hx, hb, hml, hown, hts⟩ (t_X10_text l D cI cR cM _ hj hG hI hBL (hTK hj1)) (cwV 0 hts gL_law_X10_text rfl rfl rfl (by decide +kernel) ⟨Nat.le_of_ble_eq_true rfl, Nat.le_of_ble_eq_true rfl⟩) (pre_TS hK hST hS hA2 hP1 hD1 (gm_10 hG) (hall_at hG hI) rfl) rfl rfl hl.1 rfl (lv_room (Nat.le_of_ble_eq_true rfl)) dL_law_235 ⟨by omega, by omega⟩) (fun _ hu => ⟨hu.1, hu.2.1, fun _ => hu.2.2.2⟩) J hP hap hS hA (fun r1 L1 S1 fc1 H locs hu1 J hP hap hS => ?_)
    refine lv_pop hx hb dL_law_238 rfl ?_
    refine lv_aload_n hx hb dL_law_239 rfl (lv_at hl 2 rfl) ?_
    refine law_ms (wr := []) (va_runV (As := []) (rest := []) ⟨hx, hb, hml, hown, hts⟩ (k_text2 l D cI cR cM _  (by first | assumption | omega) (by first | assumption | omega) (by first | assumption | omega) (by first | assumption | omega) (by first | assumption | omega) (by first | assumption | omega) (by first | assumption | omega) (by first | assumption | omega) (by first | assumption | omega)) (cwV 0 hts gL_law_X11_text rfl rfl rfl (by decide +kernel) ⟨Nat.le_of_ble_eq_true rfl, Nat.le_of_ble_eq_true rfl⟩) (pre_V hK hP hD 0 11 rfl rfl) rfl rfl hl.1 rfl (lv_room (Nat.le_of_ble_eq_true rfl)) dL_law_240 ⟨by omega, by omega⟩) J hP hD hap hS hA [0, 1, 2, 3, 4, 5, 6, 7, 8, 9, 10, 11, 12, 13, 14, 15, 16, 17, 18, 19, 20, 21, 22, 23, 24, 25] [] (by with_unfolding_all rfl) rfl (by decide) (by decide) (fun u2 H locs hw J hP hD hap hS => ?_)
    obtain ⟨r2, y0_2, y1_2, y2_2, y3_2, y4_2, y5_2, y6_2, y7_2, y8_2, y9_2, y10_2, y11_2, y12_2, y13_2, y14_2, g0_2, g1_2, g3_2, g4_2, g5_2, g6_2, g7_2, g8_2, g9_2, g10_2, g11_2⟩ := u2
    have hP : va_P D vwCl (mX mm q jn cI y0_2 y1_2 y2_2 y3_2 y4_2 y5_2 y6_2 y7_2 y8_2 y9_2 y10_2 y11_2 y12_2 y13_2 y14_2 x15 x16 x17 x18 x19 x20 g0_2 g1_2 f2 g3_2 g4_2 g5_2 g6_2 g7_2 g8_2 g9_2 g10_2 g11_2 f12 f13 f14 f15 f16 f17 f18 f19 f20 f21 f22 f23 f24) H := hP
    have hD : va_D A (mX mm q jn cI y0_2 y1_2 y2_2 y3_2 y4_2 y5_2 y6_2 y7_2 y8_2 y9_2 y10_2 y11_2 y12_2 y13_2 y14_2 x15 x16 x17 x18 x19 x20 g0_2 g1_2 f2 g3_2 g4_2 g5_2 g6_2 g7_2 g8_2 g9_2 g10_2 g11_2 f12 f13 f14 f15 f16 f17 f18 f19 f20 f21 f22 f23 f24) := hD
    have hap : AP L1 (mX mm q jn cI y0_2 y1_2 y2_2 y3_2 y4_2 y5_2 y6_2 y7_2 y8_2 y9_2 y10_2 y11_2 y12_2 y13_2 y14_2 x15 x16 x17 x18 x19 x20 g0_2 g1_2 f2 g3_2 g4_2 g5_2 g6_2 g7_2 g8_2 g9_2 g10_2 g11_2 f12 f13 f14 f15 f16 f17 f18 f19 f20 f21 f22 f23 f24) := hap
    obtain ⟨h0_2, ht_2, hR_2, hRZ_2, hSe_2, hM_2, hFm_2, h1_2⟩ : (0 ≤ y0_2.toInt ∧ y0_2.toInt ≤ 60) ∧ (0 ≤ y2_2.toInt ∧ y2_2.toInt ≤ 300) ∧ (RowsX jn g0_2) ∧ (RowsZ jn g0_2) ∧ (SeenX g1_2) ∧ (MK g11_2) ∧ (FM g10_2) ∧ (0 ≤ y1_2.toInt ∧ y1_2.toInt ≤ y0_2.toInt) := hw
    have hSX := SCx_frx hSX hG hu1.2.2.1 (by decide)
    have hLK : LKx jn cI cR g L1 S1 fc1 y0_2 y1_2 y2_2 g0_2 f2 := fun e9 => absurd e9 hj1
    refine lv_pop hx hb dL_law_243 rfl ?_
    refine lv_goto (tgt := 947) hx hb dL_law_244 (by decide) ?_
    refine W.widen (k := N9 + 18) (n := M9 + 1193) (by omega) (by omega) ?_
    exact hend _ _ _ ⟨L1, S1, fc1, y0_2, y1_2, y2_2, y3_2, y4_2, y5_2, y6_2, y7_2, y8_2, y9_2, y10_2, y11_2, y12_2, y13_2, y14_2, x15, x16, x17, x18, x19, x20, g0_2, g1_2, f2, g3_2, g4_2, g5_2, g6_2, g7_2, g8_2, g9_2, g10_2, g11_2, f12, f13, f14, f15, f16, f17, f18, f19, f20, f21, f22, f23, f24, J, hP, hD, hap, hLK, hSX, ⟨(by first | assumption | omega), (by first | assumption | omega), (by first | assumption | omega), (by first | assumption | omega), (by first | assumption | omega), (by first | assumption | omega), (by first | assumption | omega), (by first | assumption | omega), (by first | assumption | omega), (by first | assumption | omega), (by first | assumption | omega)⟩⟩ hS hl
