theorem dL_law_0 : decode cL_law 0 = .ok (.new 7, 3) := by decide +kernel
theorem dL_law_3 : decode cL_law 3 = .ok (.dup, 1) := by decide +kernel
theorem dL_law_4 : decode cL_law 4 = .ok (.aload_n 0, 1) := by decide +kernel
theorem dL_law_5 : decode cL_law 5 = .ok (.iconst 0, 1) := by decide +kernel
theorem dL_law_6 : decode cL_law 6 = .ok (.invokestatic 9, 3) := by decide +kernel
theorem dL_law_9 : decode cL_law 9 = .ok (.invokespecial 15, 3) := by decide +kernel
theorem dL_law_12 : decode cL_law 12 = .ok (.astore_n 1, 1) := by decide +kernel
theorem dL_law_13 : decode cL_law 13 = .ok (.new 18, 3) := by decide +kernel
theorem dL_law_16 : decode cL_law 16 = .ok (.dup, 1) := by decide +kernel
theorem dL_law_17 : decode cL_law 17 = .ok (.aload_n 0, 1) := by decide +kernel
theorem dL_law_18 : decode cL_law 18 = .ok (.iconst 0, 1) := by decide +kernel
theorem dL_law_19 : decode cL_law 19 = .ok (.invokestatic 9, 3) := by decide +kernel
theorem dL_law_22 : decode cL_law 22 = .ok (.invokespecial 20, 3) := by decide +kernel
theorem dL_law_25 : decode cL_law 25 = .ok (.astore_n 2, 1) := by decide +kernel
theorem dL_law_26 : decode cL_law 26 = .ok (.iconst 1, 1) := by decide +kernel
theorem dL_law_27 : decode cL_law 27 = .ok (.istore_n 3, 1) := by decide +kernel
theorem dL_law_37 : decode cL_law 37 = .ok (.aload_n 0, 1) := by decide +kernel
theorem dL_law_38 : decode cL_law 38 = .ok (.iload_n 3, 1) := by decide +kernel
theorem dL_law_39 : decode cL_law 39 = .ok (.iaload, 1) := by decide +kernel
theorem dL_law_40 : decode cL_law 40 = .ok (.bipush 31, 2) := by decide +kernel
theorem dL_law_42 : decode cL_law 42 = .ok (.iand, 1) := by decide +kernel
theorem dL_law_43 : decode cL_law 43 = .ok (.tableswitch 904 0 22 #[105, 168, 191, 204, 227, 250, 273, 336, 369, 392, 435, 488, 551, 584, 627, 670, 683, 716, 749, 772, 805, 848, 881], 105) := by decide +kernel
set_option maxRecDepth 20000 in
theorem ggL_law_L_cell : GoodIn wsL_law wsL_cell := goodIn_r _ [9] (by decide +kernel) (by decide +kernel)
set_option maxRecDepth 20000 in
theorem gL_law_L_cell : GoodIn wsL_law (va_wsS RL 9 yL_cell wsL_cell) := goodIn_app (goodIn_of _ (by decide +kernel)) ggL_law_L_cell
set_option maxRecDepth 100000 in
set_option maxHeartbeats 4000000 in
theorem ggL_law_X10_init : GoodIn wsL_law wsX10_init := goodIn_r _ [12, 13, 14, 15, 16, 17, 18, 19, 20, 21, 22, 23, 24, 25, 26, 27, 28, 29, 30, 31, 32, 33, 34, 35, 36, 37, 38, 39, 40, 41, 42, 43, 44, 45, 46, 47, 48, 49, 50, 51, 52, 53, 54, 55, 56, 57, 58, 59, 60, 61, 62, 63, 64, 65, 66, 67, 68, 69, 70, 71, 72, 73, 74, 75, 76, 77, 78, 79, 80, 81, 82, 83, 84, 85, 86, 87, 88, 89, 90, 91, 92, 93, 94, 95, 96, 97, 98, 99, 100, 101, 102, 103, 104, 105, 106, 107, 108, 109, 110, 111, 112, 113, 114, 115, 116, 117, 118, 119, 120, 121, 122, 123, 124, 125, 126, 127, 128, 129, 130, 131, 132, 133, 1100, 1101, 1102, 1103, 1104, 1105, 1106, 1107, 1155, 1156, 1157, 1158, 1159, 1160, 1161, 1162, 1163, 1164, 1165, 1166, 1167, 1168, 1169, 1170, 1171, 1172, 1173, 1174, 1175, 1176, 1177, 1178, 1179, 1180, 1181, 1182, 1183, 1184, 1185, 1186, 1187, 1188, 1189, 1190, 1191, 1192, 1193, 1194, 1195, 1196, 1197, 1198, 1199, 1200, 1201, 1202, 1203, 1204, 1205] (by with_unfolding_all rfl) (by decide +kernel)
set_option maxRecDepth 100000 in
set_option maxHeartbeats 4000000 in
theorem ggL_law_X11_init : GoodIn wsL_law wsX11_init := goodIn_r _ [136, 137, 14, 15, 138, 58, 139, 140, 141, 142, 143, 144, 145, 146, 147, 148, 149, 150, 151, 152, 153, 154, 155, 156, 157, 158, 159, 160, 161, 162, 163, 164, 165, 166, 1108, 1109, 1110, 1111, 1112, 1113, 1114, 1115, 1116, 1117, 1118, 1119, 1120, 1121, 1122, 1123, 1124, 1125, 1126, 1127, 1128, 1129, 1130, 1131, 1132, 1133, 1134, 1135, 1136, 1137, 1138, 1139, 1140, 1141, 1142, 1143, 1144, 1145, 1146, 1147, 1148, 1149, 1150, 1151, 1152, 1153, 1154] (by with_unfolding_all rfl) (by decide +kernel)
set_option maxRecDepth 100000 in
set_option maxHeartbeats 4000000 in
theorem whole_start {p : Program} {e : Env} {s : State} {m : MethodId} {below : List Frame} {meth : Method} {c : Code} (l : Launch) {b L : Nat} {xs : Nat → Int32} (hL : L ≤ 7) (C0 : lw_At p s m meth c b L xs) : W p l e room_1 s m #[Value.ref b] below meth c s.heap [] 0 0 (lw_Z below #[Value.ref b] s) (entryFrame m ([Value.ref b] : List Value).toArray 4) := by
  obtain ⟨hx, hb, hr, hml, hown, hts0, hX, hbl, hlocks, hgv⟩ := id C0
  obtain ⟨D, cI, cR, cM, hK⟩ := law_KK hts0
  have hts : ∀ w ∈ wsL_law, w.before #[Value.ref b] s = true := fun w h => hts0 w (wsL_law_in w h)
  obtain ⟨A, hAd⟩ : ∃ A : Nat → Prop, A = fun q => s.heap.size ≤ q := ⟨_, rfl⟩
  have hA : ∀ q, s.heap.size ≤ q → A q := by rw [hAd]; exact fun _ h => h
  have hA2 : ∀ q, A q → s.heap.size ≤ q := by rw [hAd]; exact fun _ h => h
  have hbA : ¬ A b := fun q => absurd (hA2 b q) (Nat.not_le.mpr hbl)
  have C1 : LC p s m meth c b L xs A D cI cR cM := ⟨hx, hb, hr, hml, hown, hts, hX, hbl, hlocks, hK, hA, hA2⟩
  obtain ⟨j0, ej0⟩ : ∃ j : Int32, j = (if 0 < L then xs 0 else 0) := ⟨_, rfl⟩
  obtain ⟨jn, hj1, hj3, hj⟩ := jg_ex j0
  have hS : va_S A s.heap s.heap [] := va_S.rf
  have hP : va_P D vwCl [] s.heap := va_P_nil
  have hD : va_D A [] := va_D_nil
  have hl := lv_entry ([.ref b]) (n := 4) (Nat.le_of_ble_eq_true rfl)
  rw [lg_entry_eq]
  generalize (lg_sl ([.ref b]) ++ List.replicate (4 - (lg_sl ([.ref b])).length) Slot.unset).toArray = ls at hl ⊢
  have hl : lv_has ls 4 [(0, .ref b)] := hl
  refine va_new (D := D) (ci := 10) (fs := [.int 0, .null, .null, .null, .null, .null, .null, .null]) (C := RX10) (T := TX10) (N := 8) hx hb hts inlX10 tyX10 tyX10_ok hown (hts (.classLink RL 7 RX10) (by decide +kernel)) (hts (.instantiable RX10 8) (by decide +kernel)) (hts (.initialized RX10) (by decide +kernel)) hK.1 hP hD hS hA rfl (fun j hj => by rcases (show j = 0 ∨ j = 1 ∨ j = 2 ∨ j = 3 ∨ j = 4 ∨ j = 5 ∨ j = 6 ∨ j = 7 by omega) with rfl | rfl | rfl | rfl | rfl | rfl | rfl | rfl <;> rfl) (Nat.le_of_ble_eq_true rfl) (Nat.le_of_ble_eq_true rfl) dL_law_0 (fun hh H hP hD hS => ?_)
  refine W.widen (k := 1) (n := 8) (Nat.le_of_ble_eq_true rfl) (Nat.le_of_ble_eq_true rfl) ?_
  have hP : va_P D vwCl [(hh, .inr (10, [.int 0, .null, .null, .null, .null, .null, .null, .null]))] H := hP
  have hD : va_D A [(hh, .inr (10, [.int 0, .null, .null, .null, .null, .null, .null, .null]))] := hD
  refine lv_dup hx hb dL_law_3 rfl ?_
  refine lv_aload_n hx hb dL_law_4 rfl (lv_at hl 0 rfl) ?_
  refine lv_iconst (v := 0) hx hb dL_law_5 (by decide) ?_
  refine ro (va_runS (As := [.ref b, .int 0]) (rest := [.ref hh, .ref hh]) ⟨hx, hb, hml, hown, hts⟩ (c_cell l hL b xs _) (va_cwS 2 hts gL_law_L_cell rfl rfl rfl (by decide +kernel) ⟨Nat.le_of_ble_eq_true rfl, Nat.le_of_ble_eq_true rfl⟩) (pre_cell hX hbl hbA hS) rfl rfl hl.1 rfl (lv_room (Nat.le_of_ble_eq_true rfl)) dL_law_6 ⟨Nat.le_of_ble_eq_true rfl, Nat.le_of_ble_eq_true rfl⟩) hS hA hP (fun H locs hP hS => ?_)
  refine lv_eqi (y := j0) (ej0.symm) ?_
  have hPc := hP.sub (ws' := [(hh, .inr (10, [.int 0, .null, .null, .null, .null, .null, .null, .null]))]) [0] rfl
  have hDc := hD.sub (ws' := [(hh, .inr (10, [.int 0, .null, .null, .null, .null, .null, .null, .null]))]) [0] (by decide) rfl
  refine call_g (wr := []) (va_runI (As := [.int j0]) (rest := [.ref hh]) ⟨hx, hb, hml, hown, hts⟩ (c_Hall_init l D cI cR cM _ hj1 hj3 hj hh) (cwI 1 hts ggL_law_X10_init rfl rfl rfl (hts (.initialized RX10) (by decide +kernel)) (hts (.methodLink RL 15 yX10_init) (by decide +kernel)) (hts (.instanceMethod yX10_init) (by decide +kernel)) rfl (by decide +kernel) ⟨Nat.le_of_ble_eq_true rfl, Nat.le_of_ble_eq_true rfl⟩) (pre_S hK hPc hDc) rfl rfl hl.1 rfl (lv_room (Nat.le_of_ble_eq_true rfl)) dL_law_9 ⟨Nat.le_of_ble_eq_true rfl, Nat.le_of_ble_eq_true rfl⟩) hP hD hS hA [0] [] rfl rfl (by decide) (by decide) (fun uh H locs hw hP hD hS => ?_)
  refine W.widen (k := 66) (n := 15841) (Nat.le_of_ble_eq_true rfl) (Nat.le_of_ble_eq_true rfl) ?_
  have hP : va_P D vwCl [(hh, .inr (10, [.int (nI jn), .ref (uh 0), .ref (uh 1), .ref (uh 2), .ref (uh 3), .ref (uh 4), .ref (uh 5), .ref (uh 6)])), (uh 0, .inr (7, [.ref (uh 7), .int 0])), (uh 7, .inl (cI, 300, .inl (fun _ => 0))), (uh 1, .inr (0, [.ref (uh 8), .ref (uh 9), .int 0, .int 0])), (uh 8, .inl (cR, 488, .inr (.inr (.inr (.inr (fun _ => none)))))), (uh 9, .inl (cM, 61, .inr (.inr (.inr (.inr (fun _ => none)))))), (uh 10, .inr (8, [.ref (uh 0), .ref (uh 11), .ref (uh 12), .ref (uh 13), .int 0, .int 0, .int 0, .int 0, .int 0, .int 0])), (uh 11, .inl (cI, 301, .inl (fun _ => 0))), (uh 12, .inl (cI, 301, .inl (fun _ => 0))), (uh 13, .inl (cI, 301, .inl (fun _ => 0))), (uh 2, .inr (4, [.int (nI jn), .ref (uh 10), .ref (uh 1), .ref (uh 14), .ref (uh 15), .ref (uh 16), .ref (uh 17), .ref (uh 18), .ref (uh 19), .int (-1), .int (-1)])), (uh 16, .inl (cR, 8, .inr (.inr (.inr (.inr (va_up (va_up (va_up (va_up (va_up (va_up (va_up (va_up (fun _ => none) 0 (some (uh 21))) 1 (some (uh 23))) 2 (some (uh 25))) 3 (some (uh 27))) 4 (some (uh 29))) 5 (some (uh 31))) 6 (some (uh 33))) 7 (some (uh 35)))))))), (uh 19, .inr (3, [.ref (uh 20), .int 0])), (uh 21, .inr (5, [.int (nI jn), .int (nI (jn * 2)), .ref (uh 22), .int 0])), (uh 23, .inr (5, [.int (nI jn), .int (nI (jn * 2)), .ref (uh 24), .int 0])), (uh 25, .inr (5, [.int (nI jn), .int (nI (jn * 2)), .ref (uh 26), .int 0])), (uh 27, .inr (5, [.int (nI jn), .int (nI (jn * 2)), .ref (uh 28), .int 0])), (uh 29, .inr (5, [.int (nI jn), .int (nI (jn * 2)), .ref (uh 30), .int 0])), (uh 31, .inr (5, [.int (nI jn), .int (nI (jn * 2)), .ref (uh 32), .int 0])), (uh 33, .inr (5, [.int (nI jn), .int (nI (jn * 2)), .ref (uh 34), .int 0])), (uh 35, .inr (5, [.int (nI jn), .int (nI (jn * 2)), .ref (uh 36), .int 0])), (uh 3, .inr (1, [.ref (uh 37), .ref (uh 38), .ref (uh 39), .ref (uh 40), .ref (uh 41), .ref (uh 42), .int 0, .null])), (uh 4, .inr (9, [.ref (uh 43), .ref (uh 44), .ref (uh 45), .ref (uh 46)])), (uh 43, .inl (cI, 512, .inl (fun _ => 0))), (uh 44, .inl (cI, 512, .inl (fun _ => 0))), (uh 45, .inl (cI, 512, .inl (fun _ => 0))), (uh 46, .inl (cI, 512, .inl (fun _ => 0))), (uh 5, .inr (6, [.ref (uh 47), .ref (uh 48), .int 0, .int 0])), (uh 6, .inr (2, [.ref (uh 49), .ref (uh 50)]))] H := hP
  have hD : va_D A [(hh, .inr (10, [.int (nI jn), .ref (uh 0), .ref (uh 1), .ref (uh 2), .ref (uh 3), .ref (uh 4), .ref (uh 5), .ref (uh 6)])), (uh 0, .inr (7, [.ref (uh 7), .int 0])), (uh 7, .inl (cI, 300, .inl (fun _ => 0))), (uh 1, .inr (0, [.ref (uh 8), .ref (uh 9), .int 0, .int 0])), (uh 8, .inl (cR, 488, .inr (.inr (.inr (.inr (fun _ => none)))))), (uh 9, .inl (cM, 61, .inr (.inr (.inr (.inr (fun _ => none)))))), (uh 10, .inr (8, [.ref (uh 0), .ref (uh 11), .ref (uh 12), .ref (uh 13), .int 0, .int 0, .int 0, .int 0, .int 0, .int 0])), (uh 11, .inl (cI, 301, .inl (fun _ => 0))), (uh 12, .inl (cI, 301, .inl (fun _ => 0))), (uh 13, .inl (cI, 301, .inl (fun _ => 0))), (uh 2, .inr (4, [.int (nI jn), .ref (uh 10), .ref (uh 1), .ref (uh 14), .ref (uh 15), .ref (uh 16), .ref (uh 17), .ref (uh 18), .ref (uh 19), .int (-1), .int (-1)])), (uh 16, .inl (cR, 8, .inr (.inr (.inr (.inr (va_up (va_up (va_up (va_up (va_up (va_up (va_up (va_up (fun _ => none) 0 (some (uh 21))) 1 (some (uh 23))) 2 (some (uh 25))) 3 (some (uh 27))) 4 (some (uh 29))) 5 (some (uh 31))) 6 (some (uh 33))) 7 (some (uh 35)))))))), (uh 19, .inr (3, [.ref (uh 20), .int 0])), (uh 21, .inr (5, [.int (nI jn), .int (nI (jn * 2)), .ref (uh 22), .int 0])), (uh 23, .inr (5, [.int (nI jn), .int (nI (jn * 2)), .ref (uh 24), .int 0])), (uh 25, .inr (5, [.int (nI jn), .int (nI (jn * 2)), .ref (uh 26), .int 0])), (uh 27, .inr (5, [.int (nI jn), .int (nI (jn * 2)), .ref (uh 28), .int 0])), (uh 29, .inr (5, [.int (nI jn), .int (nI (jn * 2)), .ref (uh 30), .int 0])), (uh 31, .inr (5, [.int (nI jn), .int (nI (jn * 2)), .ref (uh 32), .int 0])), (uh 33, .inr (5, [.int (nI jn), .int (nI (jn * 2)), .ref (uh 34), .int 0])), (uh 35, .inr (5, [.int (nI jn), .int (nI (jn * 2)), .ref (uh 36), .int 0])), (uh 3, .inr (1, [.ref (uh 37), .ref (uh 38), .ref (uh 39), .ref (uh 40), .ref (uh 41), .ref (uh 42), .int 0, .null])), (uh 4, .inr (9, [.ref (uh 43), .ref (uh 44), .ref (uh 45), .ref (uh 46)])), (uh 43, .inl (cI, 512, .inl (fun _ => 0))), (uh 44, .inl (cI, 512, .inl (fun _ => 0))), (uh 45, .inl (cI, 512, .inl (fun _ => 0))), (uh 46, .inl (cI, 512, .inl (fun _ => 0))), (uh 5, .inr (6, [.ref (uh 47), .ref (uh 48), .int 0, .int 0])), (uh 6, .inr (2, [.ref (uh 49), .ref (uh 50)]))] := hD
  refine lv_astore_n (lv' := [(1, .ref hh), (0, .ref b)]) hx hb dL_law_12 rfl hl (by decide) rfl (fun ls hl => ?_)
  refine va_new (D := D) (ci := 11) (fs := [.int 0, .null, .null, .int 0, .int 0, .null, .int 0, .int 0, .int 0, .int 0, .int 0, .int 0, .int 0, .int 0, .null, .null, .null, .null, .null, .int 0, .int 0, .int 0, .null, .null, .null, .int 0, .int 0, .null, .int 0, .int 0, .null, .null, .null, .null, .null, .int 0, .null, .null, .null, .null, .null, .null, .int 0, .int 0, .int 0, .null, .null]) (C := RX11) (T := TX11) (N := 47) hx hb hts inlX11 tyX11 tyX11_ok hown (hts (.classLink RL 18 RX11) (by decide +kernel)) (hts (.instantiable RX11 47) (by decide +kernel)) (hts (.initialized RX11) (by decide +kernel)) hK.1 hP hD hS hA rfl (fun j hj => by rcases (show j = 0 ∨ j = 1 ∨ j = 2 ∨ j = 3 ∨ j = 4 ∨ j = 5 ∨ j = 6 ∨ j = 7 ∨ j = 8 ∨ j = 9 ∨ j = 10 ∨ j = 11 ∨ j = 12 ∨ j = 13 ∨ j = 14 ∨ j = 15 ∨ j = 16 ∨ j = 17 ∨ j = 18 ∨ j = 19 ∨ j = 20 ∨ j = 21 ∨ j = 22 ∨ j = 23 ∨ j = 24 ∨ j = 25 ∨ j = 26 ∨ j = 27 ∨ j = 28 ∨ j = 29 ∨ j = 30 ∨ j = 31 ∨ j = 32 ∨ j = 33 ∨ j = 34 ∨ j = 35 ∨ j = 36 ∨ j = 37 ∨ j = 38 ∨ j = 39 ∨ j = 40 ∨ j = 41 ∨ j = 42 ∨ j = 43 ∨ j = 44 ∨ j = 45 ∨ j = 46 by omega) with rfl | rfl | rfl | rfl | rfl | rfl | rfl | rfl | rfl | rfl | rfl | rfl | rfl | rfl | rfl | rfl | rfl | rfl | rfl | rfl | rfl | rfl | rfl | rfl | rfl | rfl | rfl | rfl | rfl | rfl | rfl | rfl | rfl | rfl | rfl | rfl | rfl | rfl | rfl | rfl | rfl | rfl | rfl | rfl | rfl | rfl | rfl <;> rfl) (Nat.le_of_ble_eq_true rfl) (Nat.le_of_ble_eq_true rfl) dL_law_13 (fun mm H hP hD hS => ?_)
  refine W.widen (k := 67) (n := 15888) (Nat.le_of_ble_eq_true rfl) (Nat.le_of_ble_eq_true rfl) ?_
  have hP : va_P D vwCl [(hh, .inr (10, [.int (nI jn), .ref (uh 0), .ref (uh 1), .ref (uh 2), .ref (uh 3), .ref (uh 4), .ref (uh 5), .ref (uh 6)])), (uh 0, .inr (7, [.ref (uh 7), .int 0])), (uh 7, .inl (cI, 300, .inl (fun _ => 0))), (uh 1, .inr (0, [.ref (uh 8), .ref (uh 9), .int 0, .int 0])), (uh 8, .inl (cR, 488, .inr (.inr (.inr (.inr (fun _ => none)))))), (uh 9, .inl (cM, 61, .inr (.inr (.inr (.inr (fun _ => none)))))), (uh 10, .inr (8, [.ref (uh 0), .ref (uh 11), .ref (uh 12), .ref (uh 13), .int 0, .int 0, .int 0, .int 0, .int 0, .int 0])), (uh 11, .inl (cI, 301, .inl (fun _ => 0))), (uh 12, .inl (cI, 301, .inl (fun _ => 0))), (uh 13, .inl (cI, 301, .inl (fun _ => 0))), (uh 2, .inr (4, [.int (nI jn), .ref (uh 10), .ref (uh 1), .ref (uh 14), .ref (uh 15), .ref (uh 16), .ref (uh 17), .ref (uh 18), .ref (uh 19), .int (-1), .int (-1)])), (uh 16, .inl (cR, 8, .inr (.inr (.inr (.inr (va_up (va_up (va_up (va_up (va_up (va_up (va_up (va_up (fun _ => none) 0 (some (uh 21))) 1 (some (uh 23))) 2 (some (uh 25))) 3 (some (uh 27))) 4 (some (uh 29))) 5 (some (uh 31))) 6 (some (uh 33))) 7 (some (uh 35)))))))), (uh 19, .inr (3, [.ref (uh 20), .int 0])), (uh 21, .inr (5, [.int (nI jn), .int (nI (jn * 2)), .ref (uh 22), .int 0])), (uh 23, .inr (5, [.int (nI jn), .int (nI (jn * 2)), .ref (uh 24), .int 0])), (uh 25, .inr (5, [.int (nI jn), .int (nI (jn * 2)), .ref (uh 26), .int 0])), (uh 27, .inr (5, [.int (nI jn), .int (nI (jn * 2)), .ref (uh 28), .int 0])), (uh 29, .inr (5, [.int (nI jn), .int (nI (jn * 2)), .ref (uh 30), .int 0])), (uh 31, .inr (5, [.int (nI jn), .int (nI (jn * 2)), .ref (uh 32), .int 0])), (uh 33, .inr (5, [.int (nI jn), .int (nI (jn * 2)), .ref (uh 34), .int 0])), (uh 35, .inr (5, [.int (nI jn), .int (nI (jn * 2)), .ref (uh 36), .int 0])), (uh 3, .inr (1, [.ref (uh 37), .ref (uh 38), .ref (uh 39), .ref (uh 40), .ref (uh 41), .ref (uh 42), .int 0, .null])), (uh 4, .inr (9, [.ref (uh 43), .ref (uh 44), .ref (uh 45), .ref (uh 46)])), (uh 43, .inl (cI, 512, .inl (fun _ => 0))), (uh 44, .inl (cI, 512, .inl (fun _ => 0))), (uh 45, .inl (cI, 512, .inl (fun _ => 0))), (uh 46, .inl (cI, 512, .inl (fun _ => 0))), (uh 5, .inr (6, [.ref (uh 47), .ref (uh 48), .int 0, .int 0])), (uh 6, .inr (2, [.ref (uh 49), .ref (uh 50)])), (mm, .inr (11, [.int 0, .null, .null, .int 0, .int 0, .null, .int 0, .int 0, .int 0, .int 0, .int 0, .int 0, .int 0, .int 0, .null, .null, .null, .null, .null, .int 0, .int 0, .int 0, .null, .null, .null, .int 0, .int 0, .null, .int 0, .int 0, .null, .null, .null, .null, .null, .int 0, .null, .null, .null, .null, .null, .null, .int 0, .int 0, .int 0, .null, .null]))] H := hP
  have hD : va_D A [(hh, .inr (10, [.int (nI jn), .ref (uh 0), .ref (uh 1), .ref (uh 2), .ref (uh 3), .ref (uh 4), .ref (uh 5), .ref (uh 6)])), (uh 0, .inr (7, [.ref (uh 7), .int 0])), (uh 7, .inl (cI, 300, .inl (fun _ => 0))), (uh 1, .inr (0, [.ref (uh 8), .ref (uh 9), .int 0, .int 0])), (uh 8, .inl (cR, 488, .inr (.inr (.inr (.inr (fun _ => none)))))), (uh 9, .inl (cM, 61, .inr (.inr (.inr (.inr (fun _ => none)))))), (uh 10, .inr (8, [.ref (uh 0), .ref (uh 11), .ref (uh 12), .ref (uh 13), .int 0, .int 0, .int 0, .int 0, .int 0, .int 0])), (uh 11, .inl (cI, 301, .inl (fun _ => 0))), (uh 12, .inl (cI, 301, .inl (fun _ => 0))), (uh 13, .inl (cI, 301, .inl (fun _ => 0))), (uh 2, .inr (4, [.int (nI jn), .ref (uh 10), .ref (uh 1), .ref (uh 14), .ref (uh 15), .ref (uh 16), .ref (uh 17), .ref (uh 18), .ref (uh 19), .int (-1), .int (-1)])), (uh 16, .inl (cR, 8, .inr (.inr (.inr (.inr (va_up (va_up (va_up (va_up (va_up (va_up (va_up (va_up (fun _ => none) 0 (some (uh 21))) 1 (some (uh 23))) 2 (some (uh 25))) 3 (some (uh 27))) 4 (some (uh 29))) 5 (some (uh 31))) 6 (some (uh 33))) 7 (some (uh 35)))))))), (uh 19, .inr (3, [.ref (uh 20), .int 0])), (uh 21, .inr (5, [.int (nI jn), .int (nI (jn * 2)), .ref (uh 22), .int 0])), (uh 23, .inr (5, [.int (nI jn), .int (nI (jn * 2)), .ref (uh 24), .int 0])), (uh 25, .inr (5, [.int (nI jn), .int (nI (jn * 2)), .ref (uh 26), .int 0])), (uh 27, .inr (5, [.int (nI jn), .int (nI (jn * 2)), .ref (uh 28), .int 0])), (uh 29, .inr (5, [.int (nI jn), .int (nI (jn * 2)), .ref (uh 30), .int 0])), (uh 31, .inr (5, [.int (nI jn), .int (nI (jn * 2)), .ref (uh 32), .int 0])), (uh 33, .inr (5, [.int (nI jn), .int (nI (jn * 2)), .ref (uh 34), .int 0])), (uh 35, .inr (5, [.int (nI jn), .int (nI (jn * 2)), .ref (uh 36), .int 0])), (uh 3, .inr (1, [.ref (uh 37), .ref (uh 38), .ref (uh 39), .ref (uh 40), .ref (uh 41), .ref (uh 42), .int 0, .null])), (uh 4, .inr (9, [.ref (uh 43), .ref (uh 44), .ref (uh 45), .ref (uh 46)])), (uh 43, .inl (cI, 512, .inl (fun _ => 0))), (uh 44, .inl (cI, 512, .inl (fun _ => 0))), (uh 45, .inl (cI, 512, .inl (fun _ => 0))), (uh 46, .inl (cI, 512, .inl (fun _ => 0))), (uh 5, .inr (6, [.ref (uh 47), .ref (uh 48), .int 0, .int 0])), (uh 6, .inr (2, [.ref (uh 49), .ref (uh 50)])), (mm, .inr (11, [.int 0, .null, .null, .int 0, .int 0, .null, .int 0, .int 0, .int 0, .int 0, .int 0, .int 0, .int 0, .int 0, .null, .null, .null, .null, .null, .int 0, .int 0, .int 0, .null, .null, .null, .int 0, .int 0, .null, .int 0, .int 0, .null, .null, .null, .null, .null, .int 0, .null, .null, .null, .null, .null, .null, .int 0, .int 0, .int 0, .null, .null]))] := hD
  refine lv_dup hx hb dL_law_16 rfl ?_
  refine lv_aload_n hx hb dL_law_17 rfl (lv_at hl 1 rfl) ?_
  refine lv_iconst (v := 0) hx hb dL_law_18 (by decide) ?_
  refine ro (va_runS (As := [.ref b, .int 0]) (rest := [.ref mm, .ref mm]) ⟨hx, hb, hml, hown, hts⟩ (c_cell l hL b xs _) (va_cwS 2 hts gL_law_L_cell rfl rfl rfl (by decide +kernel) ⟨Nat.le_of_ble_eq_true rfl, Nat.le_of_ble_eq_true rfl⟩) (pre_cell hX hbl hbA hS) rfl rfl hl.1 rfl (lv_room (Nat.le_of_ble_eq_true rfl)) dL_law_19 ⟨Nat.le_of_ble_eq_true rfl, Nat.le_of_ble_eq_true rfl⟩) hS hA hP (fun H locs hP hS => ?_)
  refine lv_eqi (y := j0) (ej0.symm) ?_
  have hPc := hP.sub (ws' := [(mm, .inr (11, [.int 0, .null, .null, .int 0, .int 0, .null, .int 0, .int 0, .int 0, .int 0, .int 0, .int 0, .int 0, .int 0, .null, .null, .null, .null, .null, .int 0, .int 0, .int 0, .null, .null, .null, .int 0, .int 0, .null, .int 0, .int 0, .null, .null, .null, .null, .null, .int 0, .null, .null, .null, .null, .null, .null, .int 0, .int 0, .int 0, .null, .null]))]) [29] rfl
  have hDc := hD.sub (ws' := [(mm, .inr (11, [.int 0, .null, .null, .int 0, .int 0, .null, .int 0, .int 0, .int 0, .int 0, .int 0, .int 0, .int 0, .int 0, .null, .null, .null, .null, .null, .int 0, .int 0, .int 0, .null, .null, .null, .int 0, .int 0, .null, .int 0, .int 0, .null, .null, .null, .null, .null, .int 0, .null, .null, .null, .null, .null, .null, .int 0, .int 0, .int 0, .null, .null]))]) [29] (by decide) rfl
  refine call_g (wr := [(hh, .inr (10, [.int (nI jn), .ref (uh 0), .ref (uh 1), .ref (uh 2), .ref (uh 3), .ref (uh 4), .ref (uh 5), .ref (uh 6)])), (uh 0, .inr (7, [.ref (uh 7), .int 0])), (uh 7, .inl (cI, 300, .inl (fun _ => 0))), (uh 1, .inr (0, [.ref (uh 8), .ref (uh 9), .int 0, .int 0])), (uh 8, .inl (cR, 488, .inr (.inr (.inr (.inr (fun _ => none)))))), (uh 9, .inl (cM, 61, .inr (.inr (.inr (.inr (fun _ => none)))))), (uh 10, .inr (8, [.ref (uh 0), .ref (uh 11), .ref (uh 12), .ref (uh 13), .int 0, .int 0, .int 0, .int 0, .int 0, .int 0])), (uh 11, .inl (cI, 301, .inl (fun _ => 0))), (uh 12, .inl (cI, 301, .inl (fun _ => 0))), (uh 13, .inl (cI, 301, .inl (fun _ => 0))), (uh 2, .inr (4, [.int (nI jn), .ref (uh 10), .ref (uh 1), .ref (uh 14), .ref (uh 15), .ref (uh 16), .ref (uh 17), .ref (uh 18), .ref (uh 19), .int (-1), .int (-1)])), (uh 16, .inl (cR, 8, .inr (.inr (.inr (.inr (va_up (va_up (va_up (va_up (va_up (va_up (va_up (va_up (fun _ => none) 0 (some (uh 21))) 1 (some (uh 23))) 2 (some (uh 25))) 3 (some (uh 27))) 4 (some (uh 29))) 5 (some (uh 31))) 6 (some (uh 33))) 7 (some (uh 35)))))))), (uh 19, .inr (3, [.ref (uh 20), .int 0])), (uh 21, .inr (5, [.int (nI jn), .int (nI (jn * 2)), .ref (uh 22), .int 0])), (uh 23, .inr (5, [.int (nI jn), .int (nI (jn * 2)), .ref (uh 24), .int 0])), (uh 25, .inr (5, [.int (nI jn), .int (nI (jn * 2)), .ref (uh 26), .int 0])), (uh 27, .inr (5, [.int (nI jn), .int (nI (jn * 2)), .ref (uh 28), .int 0])), (uh 29, .inr (5, [.int (nI jn), .int (nI (jn * 2)), .ref (uh 30), .int 0])), (uh 31, .inr (5, [.int (nI jn), .int (nI (jn * 2)), .ref (uh 32), .int 0])), (uh 33, .inr (5, [.int (nI jn), .int (nI (jn * 2)), .ref (uh 34), .int 0])), (uh 35, .inr (5, [.int (nI jn), .int (nI (jn * 2)), .ref (uh 36), .int 0])), (uh 3, .inr (1, [.ref (uh 37), .ref (uh 38), .ref (uh 39), .ref (uh 40), .ref (uh 41), .ref (uh 42), .int 0, .null])), (uh 4, .inr (9, [.ref (uh 43), .ref (uh 44), .ref (uh 45), .ref (uh 46)])), (uh 43, .inl (cI, 512, .inl (fun _ => 0))), (uh 44, .inl (cI, 512, .inl (fun _ => 0))), (uh 45, .inl (cI, 512, .inl (fun _ => 0))), (uh 46, .inl (cI, 512, .inl (fun _ => 0))), (uh 5, .inr (6, [.ref (uh 47), .ref (uh 48), .int 0, .int 0])), (uh 6, .inr (2, [.ref (uh 49), .ref (uh 50)]))]) (va_runI (As := [.int j0]) (rest := [.ref mm]) ⟨hx, hb, hml, hown, hts⟩ (c_Model_init l D cI cR cM _ hj mm) (cwI 1 hts ggL_law_X11_init rfl rfl rfl (hts (.initialized RX11) (by decide +kernel)) (hts (.methodLink RL 20 yX11_init) (by decide +kernel)) (hts (.instanceMethod yX11_init) (by decide +kernel)) rfl (by decide +kernel) ⟨Nat.le_of_ble_eq_true rfl, Nat.le_of_ble_eq_true rfl⟩) (pre_S hK hPc hDc) rfl rfl hl.1 rfl (lv_room (Nat.le_of_ble_eq_true rfl)) dL_law_22 ⟨Nat.le_of_ble_eq_true rfl, Nat.le_of_ble_eq_true rfl⟩) hP hD hS hA [29] [0, 1, 2, 3, 4, 5, 6, 7, 8, 9, 10, 11, 12, 13, 14, 15, 16, 17, 18, 19, 20, 21, 22, 23, 24, 25, 26, 27, 28] rfl rfl (by decide) (by decide) (fun um H locs hw hP hD hS => ?_)
  refine W.widen (k := 92) (n := 95787) (Nat.le_of_ble_eq_true rfl) (Nat.le_of_ble_eq_true rfl) ?_
  have hP : va_P D vwCl [(hh, .inr (10, [.int (nI jn), .ref (uh 0), .ref (uh 1), .ref (uh 2), .ref (uh 3), .ref (uh 4), .ref (uh 5), .ref (uh 6)])), (uh 0, .inr (7, [.ref (uh 7), .int 0])), (uh 7, .inl (cI, 300, .inl (fun _ => 0))), (uh 1, .inr (0, [.ref (uh 8), .ref (uh 9), .int 0, .int 0])), (uh 8, .inl (cR, 488, .inr (.inr (.inr (.inr (fun _ => none)))))), (uh 9, .inl (cM, 61, .inr (.inr (.inr (.inr (fun _ => none)))))), (uh 10, .inr (8, [.ref (uh 0), .ref (uh 11), .ref (uh 12), .ref (uh 13), .int 0, .int 0, .int 0, .int 0, .int 0, .int 0])), (uh 11, .inl (cI, 301, .inl (fun _ => 0))), (uh 12, .inl (cI, 301, .inl (fun _ => 0))), (uh 13, .inl (cI, 301, .inl (fun _ => 0))), (uh 2, .inr (4, [.int (nI jn), .ref (uh 10), .ref (uh 1), .ref (uh 14), .ref (uh 15), .ref (uh 16), .ref (uh 17), .ref (uh 18), .ref (uh 19), .int (-1), .int (-1)])), (uh 16, .inl (cR, 8, .inr (.inr (.inr (.inr (va_up (va_up (va_up (va_up (va_up (va_up (va_up (va_up (fun _ => none) 0 (some (uh 21))) 1 (some (uh 23))) 2 (some (uh 25))) 3 (some (uh 27))) 4 (some (uh 29))) 5 (some (uh 31))) 6 (some (uh 33))) 7 (some (uh 35)))))))), (uh 19, .inr (3, [.ref (uh 20), .int 0])), (uh 21, .inr (5, [.int (nI jn), .int (nI (jn * 2)), .ref (uh 22), .int 0])), (uh 23, .inr (5, [.int (nI jn), .int (nI (jn * 2)), .ref (uh 24), .int 0])), (uh 25, .inr (5, [.int (nI jn), .int (nI (jn * 2)), .ref (uh 26), .int 0])), (uh 27, .inr (5, [.int (nI jn), .int (nI (jn * 2)), .ref (uh 28), .int 0])), (uh 29, .inr (5, [.int (nI jn), .int (nI (jn * 2)), .ref (uh 30), .int 0])), (uh 31, .inr (5, [.int (nI jn), .int (nI (jn * 2)), .ref (uh 32), .int 0])), (uh 33, .inr (5, [.int (nI jn), .int (nI (jn * 2)), .ref (uh 34), .int 0])), (uh 35, .inr (5, [.int (nI jn), .int (nI (jn * 2)), .ref (uh 36), .int 0])), (uh 3, .inr (1, [.ref (uh 37), .ref (uh 38), .ref (uh 39), .ref (uh 40), .ref (uh 41), .ref (uh 42), .int 0, .null])), (uh 4, .inr (9, [.ref (uh 43), .ref (uh 44), .ref (uh 45), .ref (uh 46)])), (uh 43, .inl (cI, 512, .inl (fun _ => 0))), (uh 44, .inl (cI, 512, .inl (fun _ => 0))), (uh 45, .inl (cI, 512, .inl (fun _ => 0))), (uh 46, .inl (cI, 512, .inl (fun _ => 0))), (uh 5, .inr (6, [.ref (uh 47), .ref (uh 48), .int 0, .int 0])), (uh 6, .inr (2, [.ref (uh 49), .ref (uh 50)])), (mm, .inr (11, [.int (nI jn), .ref (um 0), .ref (um 1), .int 0, .int 0, .ref (um 2), .int 0, .int (-1), .int (-1), .int 0, .int 0, .int 0, .int 0, .int 0, .ref (um 3), .ref (um 4), .ref (um 5), .ref (um 6), .ref (um 7), .int 0, .int 0, .int 0, .ref (um 8), .ref (um 9), .ref (um 10), .int 0, .int 0, .ref (um 11), .int 0, .int 0, .ref (um 12), .ref (um 13), .ref (um 14), .ref (um 15), .ref (um 16), .int 0, .ref (um 17), .ref (um 18), .ref (um 19), .ref (um 20), .ref (um 21), .ref (um 22), .int 0, .int 0, .int 0, .ref (um 23), .ref (um 24)])), (um 0, .inl (cI, 73200, .inl (fun _ => 0))), (um 1, .inl (cI, 488, .inl (fun _ => 0))), (um 2, .inl (cI, 300, .inl (fun _ => 0))), (um 8, .inl (cI, 8, .inl (fun _ => 0))), (um 10, .inl (cI, 8, .inl (fun _ => 0))), (um 17, .inl (cI, 512, .inl (fun _ => 0))), (um 18, .inl (cI, 512, .inl (fun _ => 0))), (um 19, .inl (cI, 11, .inl (fun _ => 0))), (um 20, .inl (cI, 11, .inl (fun _ => 0)))] H := hP
  have hD : va_D A [(hh, .inr (10, [.int (nI jn), .ref (uh 0), .ref (uh 1), .ref (uh 2), .ref (uh 3), .ref (uh 4), .ref (uh 5), .ref (uh 6)])), (uh 0, .inr (7, [.ref (uh 7), .int 0])), (uh 7, .inl (cI, 300, .inl (fun _ => 0))), (uh 1, .inr (0, [.ref (uh 8), .ref (uh 9), .int 0, .int 0])), (uh 8, .inl (cR, 488, .inr (.inr (.inr (.inr (fun _ => none)))))), (uh 9, .inl (cM, 61, .inr (.inr (.inr (.inr (fun _ => none)))))), (uh 10, .inr (8, [.ref (uh 0), .ref (uh 11), .ref (uh 12), .ref (uh 13), .int 0, .int 0, .int 0, .int 0, .int 0, .int 0])), (uh 11, .inl (cI, 301, .inl (fun _ => 0))), (uh 12, .inl (cI, 301, .inl (fun _ => 0))), (uh 13, .inl (cI, 301, .inl (fun _ => 0))), (uh 2, .inr (4, [.int (nI jn), .ref (uh 10), .ref (uh 1), .ref (uh 14), .ref (uh 15), .ref (uh 16), .ref (uh 17), .ref (uh 18), .ref (uh 19), .int (-1), .int (-1)])), (uh 16, .inl (cR, 8, .inr (.inr (.inr (.inr (va_up (va_up (va_up (va_up (va_up (va_up (va_up (va_up (fun _ => none) 0 (some (uh 21))) 1 (some (uh 23))) 2 (some (uh 25))) 3 (some (uh 27))) 4 (some (uh 29))) 5 (some (uh 31))) 6 (some (uh 33))) 7 (some (uh 35)))))))), (uh 19, .inr (3, [.ref (uh 20), .int 0])), (uh 21, .inr (5, [.int (nI jn), .int (nI (jn * 2)), .ref (uh 22), .int 0])), (uh 23, .inr (5, [.int (nI jn), .int (nI (jn * 2)), .ref (uh 24), .int 0])), (uh 25, .inr (5, [.int (nI jn), .int (nI (jn * 2)), .ref (uh 26), .int 0])), (uh 27, .inr (5, [.int (nI jn), .int (nI (jn * 2)), .ref (uh 28), .int 0])), (uh 29, .inr (5, [.int (nI jn), .int (nI (jn * 2)), .ref (uh 30), .int 0])), (uh 31, .inr (5, [.int (nI jn), .int (nI (jn * 2)), .ref (uh 32), .int 0])), (uh 33, .inr (5, [.int (nI jn), .int (nI (jn * 2)), .ref (uh 34), .int 0])), (uh 35, .inr (5, [.int (nI jn), .int (nI (jn * 2)), .ref (uh 36), .int 0])), (uh 3, .inr (1, [.ref (uh 37), .ref (uh 38), .ref (uh 39), .ref (uh 40), .ref (uh 41), .ref (uh 42), .int 0, .null])), (uh 4, .inr (9, [.ref (uh 43), .ref (uh 44), .ref (uh 45), .ref (uh 46)])), (uh 43, .inl (cI, 512, .inl (fun _ => 0))), (uh 44, .inl (cI, 512, .inl (fun _ => 0))), (uh 45, .inl (cI, 512, .inl (fun _ => 0))), (uh 46, .inl (cI, 512, .inl (fun _ => 0))), (uh 5, .inr (6, [.ref (uh 47), .ref (uh 48), .int 0, .int 0])), (uh 6, .inr (2, [.ref (uh 49), .ref (uh 50)])), (mm, .inr (11, [.int (nI jn), .ref (um 0), .ref (um 1), .int 0, .int 0, .ref (um 2), .int 0, .int (-1), .int (-1), .int 0, .int 0, .int 0, .int 0, .int 0, .ref (um 3), .ref (um 4), .ref (um 5), .ref (um 6), .ref (um 7), .int 0, .int 0, .int 0, .ref (um 8), .ref (um 9), .ref (um 10), .int 0, .int 0, .ref (um 11), .int 0, .int 0, .ref (um 12), .ref (um 13), .ref (um 14), .ref (um 15), .ref (um 16), .int 0, .ref (um 17), .ref (um 18), .ref (um 19), .ref (um 20), .ref (um 21), .ref (um 22), .int 0, .int 0, .int 0, .ref (um 23), .ref (um 24)])), (um 0, .inl (cI, 73200, .inl (fun _ => 0))), (um 1, .inl (cI, 488, .inl (fun _ => 0))), (um 2, .inl (cI, 300, .inl (fun _ => 0))), (um 8, .inl (cI, 8, .inl (fun _ => 0))), (um 10, .inl (cI, 8, .inl (fun _ => 0))), (um 17, .inl (cI, 512, .inl (fun _ => 0))), (um 18, .inl (cI, 512, .inl (fun _ => 0))), (um 19, .inl (cI, 11, .inl (fun _ => 0))), (um 20, .inl (cI, 11, .inl (fun _ => 0)))] := hD
  refine lv_astore_n (lv' := [(2, .ref mm), (1, .ref hh), (0, .ref b)]) hx hb dL_law_25 rfl hl (by decide) rfl (fun ls hl => ?_)
  refine lv_iconst (v := 1) hx hb dL_law_26 (by decide) ?_
  refine lv_istore_n (lv' := [(3, .int 1), (2, .ref mm), (1, .ref hh), (0, .ref b)]) hx hb dL_law_27 rfl hl (by decide) rfl (fun ls hl => ?_)
  rcases Nat.lt_or_ge L 7 with h7 | h7
  · have hlt : nI L - 6 < 1 := by
      rcases (show L = 0 ∨ L = 1 ∨ L = 2 ∨ L = 3 ∨ L = 4 ∨ L = 5 ∨ L = 6 by omega) with q | q | q | q | q | q | q <;> rw [q] <;> decide
    refine lv_iload_n hx hb dL_law_28 rfl (lv_at hl 0 rfl) ?_
    refine lv_aload_n hx hb dL_law_29 rfl (lv_at hl 3 rfl) ?_
    refine va_slen hx hb hX hbl hbA hS dL_law_30 ?_
    refine lv_eqi (y := nI L) rfl ?_
    refine lv_bipush (v := 6) hx hb dL_law_31 (by decide) ?_
    refine lv_isub hx hb dL_law_33 ?_
    refine lv_icmp_gt (tgt := 953) hx hb dL_law_34 (by decide) (fun c34 => ?_) (fun c34 => absurd (hlt) c34)
    refine lv_iconst (v := 1) hx hb dL_law_953 (by decide) ?_
    refine va_forget (fun q hq => hA2 _ (hS.2.2 q hq)) ?_
    refine W.widen (k := 600000) (n := 7302250) (Nat.le_of_ble_eq_true rfl) (Nat.le_of_ble_eq_true rfl) ?_
    exact lw_ret hx hb hr hlocks dL_law_954
  · have h7 : L = 7 := by omega
    subst h7
    refine lv_iload_n hx hb dL_law_28 rfl (lv_at hl 0 rfl) ?_
    refine lv_aload_n hx hb dL_law_29 rfl (lv_at hl 3 rfl) ?_
    refine va_slen hx hb hX hbl hbA hS dL_law_30 ?_
    refine lv_eqi (y := nI 7) rfl ?_
    refine lv_bipush (v := 6) hx hb dL_law_31 (by decide) ?_
    refine lv_isub hx hb dL_law_33 ?_
    refine lv_icmp_gt (tgt := 953) hx hb dL_law_34 (by decide) (fun c34 => absurd c34 (by decide)) (fun c34 => ?_)
    refine lv_aload_n hx hb dL_law_37 rfl (lv_at hl 3 rfl) ?_
    refine lv_iload_n hx hb dL_law_38 rfl (lv_at hl 0 rfl) ?_
    refine va_sld hx hb hX hbl hbA hS (vp_in_nI (n := 1) (by decide) (by decide)) dL_law_39 ?_
    refine lv_eqi (y := xs 1) rfl ?_
    refine lv_bipush (v := 31) hx hb dL_law_40 (by decide) ?_
    refine lv_iand hx hb dL_law_42 ?_
    obtain ⟨k9, hk9, ek9⟩ := pk_andE (xs 1) (m := 31) 5 (by decide)
    have hk9 : k9 < 32 := hk9
    refine lv_eqi (y := nI k9) ek9 ?_
    rcases Classical.em (k9 = 0) with q9 | q9
    · subst q9
      refine lv_tableIn (tgt := 148) hx hb dL_law_43 (by decide) (by decide) (by rfl) (by decide) ?_
      exact law_c0 C1 (hP.sub [0, 1, 2, 29, 32] rfl) (hD.sub [0, 1, 2, 29, 32] (by decide) rfl) hS (lv_sub hl [3, 2, 1, 0] rfl)
    · rcases Classical.em (k9 = 1) with q9 | q9
      · subst q9
        refine lv_tableIn (tgt := 211) hx hb dL_law_43 (by decide) (by decide) (by rfl) (by decide) ?_
        exact law_c1 C1 (hP.sub [0, 1, 29] rfl) (hD.sub [0, 1, 29] (by decide) rfl) hS (lv_sub hl [3, 2, 1, 0] rfl)
      · rcases Classical.em (k9 = 2) with q9 | q9
        · subst q9
          refine lv_tableIn (tgt := 234) hx hb dL_law_43 (by decide) (by decide) (by rfl) (by decide) ?_
          exact law_c2 C1 (hP.sub [0, 1, 3, 4, 5, 10, 11, 12, 13, 14, 15, 16, 17, 18, 19, 20, 6, 7, 8, 9, 29, 33, 34, 30, 31] rfl) (hD.sub [0, 1, 3, 4, 5, 10, 11, 12, 13, 14, 15, 16, 17, 18, 19, 20, 6, 7, 8, 9, 29, 33, 34, 30, 31] (by decide) rfl) hS (lv_sub hl [3, 2, 1, 0] rfl)
        · rcases Classical.em (k9 = 3) with q9 | q9
          · subst q9
            refine lv_tableIn (tgt := 247) hx hb dL_law_43 (by decide) (by decide) (by rfl) (by decide) ?_
            exact law_c3 C1 (hP.sub [0, 10, 29] rfl) (hD.sub [0, 10, 29] (by decide) rfl) hS (lv_sub hl [3, 2, 1, 0] rfl)
          · rcases Classical.em (k9 = 4) with q9 | q9
            · subst q9
              refine lv_tableIn (tgt := 270) hx hb dL_law_43 (by decide) (by decide) (by rfl) (by decide) ?_
              exact law_c4 C1 (hP.sub [0, 3, 29] rfl) (hD.sub [0, 3, 29] (by decide) rfl) hS (lv_sub hl [3, 2, 1, 0] rfl)
            · rcases Classical.em (k9 = 5) with q9 | q9
              · subst q9
                refine lv_tableIn (tgt := 293) hx hb dL_law_43 (by decide) (by decide) (by rfl) (by decide) ?_
                exact law_c5 C1 (hP.sub [0, 3, 4, 29] rfl) (hD.sub [0, 3, 4, 29] (by decide) rfl) hS (lv_sub hl [3, 2, 1, 0] rfl)
              · rcases Classical.em (k9 = 6) with q9 | q9
                · subst q9
                  refine lv_tableIn (tgt := 316) hx hb dL_law_43 (by decide) (by decide) (by rfl) (by decide) ?_
                  exact law_c6 C1 (hP.sub [0, 3, 4, 29] rfl) (hD.sub [0, 3, 4, 29] (by decide) rfl) hS (lv_sub hl [3, 2, 1, 0] rfl)
                · rcases Classical.em (k9 = 7) with q9 | q9
                  · subst q9
                    refine lv_tableIn (tgt := 379) hx hb dL_law_43 (by decide) (by decide) (by rfl) (by decide) ?_
                    exact law_c7 C1 (hP.sub [0, 3, 4, 29] rfl) (hD.sub [0, 3, 4, 29] (by decide) rfl) hS (lv_sub hl [3, 2, 1, 0] rfl)
                  · rcases Classical.em (k9 = 8) with q9 | q9
                    · subst q9
                      refine lv_tableIn (tgt := 412) hx hb dL_law_43 (by decide) (by decide) (by rfl) (by decide) ?_
                      exact law_c8 C1 (hP.sub [0, 3, 4, 21, 29] rfl) (hD.sub [0, 3, 4, 21, 29] (by decide) rfl) hS (lv_sub hl [3, 2, 1, 0] rfl)
                    · rcases Classical.em (k9 = 9) with q9 | q9
                      · subst q9
                        refine lv_tableIn (tgt := 435) hx hb dL_law_43 (by decide) (by decide) (by rfl) (by decide) ?_
                        exact law_c9 C1 (hP.sub [0, 3, 4, 29] rfl) (hD.sub [0, 3, 4, 29] (by decide) rfl) hS (lv_sub hl [3, 2, 1, 0] rfl)
                      · rcases Classical.em (k9 = 10) with q9 | q9
                        · subst q9
                          refine lv_tableIn (tgt := 478) hx hb dL_law_43 (by decide) (by decide) (by rfl) (by decide) ?_
                          exact law_c10 C1 (hP.sub [0, 3, 4, 29] rfl) (hD.sub [0, 3, 4, 29] (by decide) rfl) hS (lv_sub hl [3, 2, 1, 0] rfl)
                        · rcases Classical.em (k9 = 11) with q9 | q9
                          · subst q9
                            refine lv_tableIn (tgt := 531) hx hb dL_law_43 (by decide) (by decide) (by rfl) (by decide) ?_
                            exact law_c11 C1 (hP.sub [0, 3, 4, 29] rfl) (hD.sub [0, 3, 4, 29] (by decide) rfl) hS (lv_sub hl [3, 2, 1, 0] rfl)
                          · rcases Classical.em (k9 = 12) with q9 | q9
                            · subst q9
                              refine lv_tableIn (tgt := 594) hx hb dL_law_43 (by decide) (by decide) (by rfl) (by decide) ?_
                              exact law_c12 C1 (hP.sub [0, 3, 4, 29] rfl) (hD.sub [0, 3, 4, 29] (by decide) rfl) hS (lv_sub hl [3, 2, 1, 0] rfl)
                            · rcases Classical.em (k9 = 13) with q9 | q9
                              · subst q9
                                refine lv_tableIn (tgt := 627) hx hb dL_law_43 (by decide) (by decide) (by rfl) (by decide) ?_
                                exact law_c13 C1 (hP.sub [0, 22, 23, 24, 25, 26, 29, 35, 36] rfl) (hD.sub [0, 22, 23, 24, 25, 26, 29, 35, 36] (by decide) rfl) hS (lv_sub hl [3, 2, 1, 0] rfl)
                              · rcases Classical.em (k9 = 14) with q9 | q9
                                · subst q9
                                  refine lv_tableIn (tgt := 670) hx hb dL_law_43 (by decide) (by decide) (by rfl) (by decide) ?_
                                  exact law_c14 C1 (hP.sub [0, 29, 37, 38] rfl) (hD.sub [0, 29, 37, 38] (by decide) rfl) hS (lv_sub hl [3, 2, 1, 0] rfl)
                                · rcases Classical.em (k9 = 15) with q9 | q9
                                  · subst q9
                                    refine lv_tableIn (tgt := 713) hx hb dL_law_43 (by decide) (by decide) (by rfl) (by decide) ?_
                                    exact law_c15 C1 (hP.sub [0, 27, 29] rfl) (hD.sub [0, 27, 29] (by decide) rfl) hS (lv_sub hl [3, 2, 1, 0] rfl)
                                  · rcases Classical.em (k9 = 16) with q9 | q9
                                    · subst q9
                                      refine lv_tableIn (tgt := 726) hx hb dL_law_43 (by decide) (by decide) (by rfl) (by decide) ?_
                                      exact law_c16 C1 (hP.sub [0, 3, 4, 29] rfl) (hD.sub [0, 3, 4, 29] (by decide) rfl) hS (lv_sub hl [3, 2, 1, 0] rfl)
                                    · rcases Classical.em (k9 = 17) with q9 | q9
                                      · subst q9
                                        refine lv_tableIn (tgt := 759) hx hb dL_law_43 (by decide) (by decide) (by rfl) (by decide) ?_
                                        exact law_c17 C1 (hP.sub [0, 27, 29] rfl) (hD.sub [0, 27, 29] (by decide) rfl) hS (lv_sub hl [3, 2, 1, 0] rfl)
                                      · rcases Classical.em (k9 = 18) with q9 | q9
                                        · subst q9
                                          refine lv_tableIn (tgt := 792) hx hb dL_law_43 (by decide) (by decide) (by rfl) (by decide) ?_
                                          exact law_c18 C1 (hP.sub [0, 3, 5, 29] rfl) (hD.sub [0, 3, 5, 29] (by decide) rfl) hS (lv_sub hl [3, 2, 1, 0] rfl)
                                        · rcases Classical.em (k9 = 19) with q9 | q9
                                          · subst q9
                                            refine lv_tableIn (tgt := 815) hx hb dL_law_43 (by decide) (by decide) (by rfl) (by decide) ?_
                                            exact law_c19 C1 (hP.sub [0, 3, 5, 29] rfl) (hD.sub [0, 3, 5, 29] (by decide) rfl) hS (lv_sub hl [3, 2, 1, 0] rfl)
                                          · rcases Classical.em (k9 = 20) with q9 | q9
                                            · subst q9
                                              refine lv_tableIn (tgt := 848) hx hb dL_law_43 (by decide) (by decide) (by rfl) (by decide) ?_
                                              exact law_c20 C1 (hP.sub [0, 3, 4, 29] rfl) (hD.sub [0, 3, 4, 29] (by decide) rfl) hS (lv_sub hl [3, 2, 1, 0] rfl)
                                            · rcases Classical.em (k9 = 21) with q9 | q9
                                              · subst q9
                                                refine lv_tableIn (tgt := 891) hx hb dL_law_43 (by decide) (by decide) (by rfl) (by decide) ?_
                                                exact law_c21 C1 (hP.sub [0, 3, 4, 29] rfl) (hD.sub [0, 3, 4, 29] (by decide) rfl) hS (lv_sub hl [3, 2, 1, 0] rfl)
                                              · rcases Classical.em (k9 = 22) with q9 | q9
                                                · subst q9
                                                  refine lv_tableIn (tgt := 924) hx hb dL_law_43 (by decide) (by decide) (by rfl) (by decide) ?_
                                                  exact law_c22 C1 (hP.sub [0, 3, 4, 27, 1, 29] rfl) (hD.sub [0, 3, 4, 27, 1, 29] (by decide) rfl) hS (lv_sub hl [3, 2, 1, 0] rfl)
                                                · have hto : (nI k9).toInt = (k9 : Int) := nI_toInt (by omega)
                                                  refine lv_tableOut (tgt := 947) hx hb dL_law_43 (by rw [hto]; omega) (by decide) ?_
                                                  exact law_end C1 _ _ _ hS (lv_sub hl [3, 0] rfl)
set_option maxHeartbeats 4000000 in
theorem lw_walk (l : Launch) (b : Addr) (xs : List Int32) : MetFree l x (headSpec (Jvm.Cond.code x code maxLocals ret :: tables_1) room_1) (lw_P b xs) (fun _ _ _ _ _ => True) lw_Q := by
  refine MetFree.of_bodyS (code := code) (maxLocals := maxLocals) (ret := ret) (by decide) ?_ ?_
  · intro args s m h hn
    obtain ⟨meth, c, h1, h2, h3, h4, h5, h6, -, -⟩ := Cond.code_spec hn (atoms_spec (ws := Jvm.Cond.code x code maxLocals ret :: tables_1) h _ List.mem_cons_self)
    exact ⟨meth, c, h1, h2, h3, h4, h5, h6⟩
  · intro p e s m args below meth c s₁ B hml0 hP _
    obtain ⟨rfl, hx, hbd, hgv⟩ := hP
    obtain ⟨scr, harrAt, hlist, hof, hsmall⟩ := hx
    obtain ⟨hcb, hkn, -, -⟩ := State.arrayAt?_spec harrAt
    have hown : s.vm.findClass R_law = some m.cls := findClass_of_methodNamed B.named
    have hts0 : ∀ c ∈ (Jvm.Cond.code x code maxLocals ret :: tables_1), c.before #[Value.ref b] s = true := atoms_spec (ws := Jvm.Cond.code x code maxLocals ret :: tables_1) B.pre
    have hts : ∀ w ∈ lw_tbl, w.before #[Value.ref b] s = true := k2_hts_sels lw_privs (fun w hw => hts0 w (List.mem_cons_of_mem _ hw)) lw_privs_ok
    have hml : c.maxLocals = 4 := B.maxLocals_eq (hts0 _ List.mem_cons_self)
    have X₀ : Stand p l e room_1 s m #[Value.ref b] below meth c s₁ [] 0 0 := Stand.of_body B
    have hh0 : s₁.heap = s.heap := by rw [B.state]; rfl
    have hsz : scr.slots.size = xs.length := by rw [← Array.length_toList, hlist, List.length_map]
    have hval : ∀ j : Nat, j < xs.length → scr.slots[j]? = some (.int (xs.getD j 0)) := fun j hj => by
      rw [← Array.getElem?_toList, hlist]
      simp [hj]
    have hbl : b < s.heap.size := (Array.getElem?_eq_some_iff.mp hcb).1
    have hX : va_X b xs.length (fun j => xs.getD j 0) s s.heap := ⟨scr, hcb, hof, hkn, hsz, hval⟩
    have K : W p l e room_1 s m #[Value.ref b] below meth c s₁.heap [] 0 0 (lw_Z below #[Value.ref b] s) (entryFrame m ([Value.ref b] : List Value).toArray 4) := by
      rw [hh0]
      exact whole_start l hbd ⟨B.exec, B.bytes, B.returns, hml, hown, hts, hX, hbl, B.notSynchronized, hgv⟩
    obtain ⟨t, a1, o, b1, b2, b3⟩ := K s₁ rfl X₀
    exact ⟨t, o, a1, b1, b2, b3⟩
theorem lw_pre_spec {args : Array Value} {s : State} (h : (Jvm.Cond.and given_1 narrow_1).before args s = true) (hr : rest_1_c.before args s = true) : ∃ (b : Addr) (xs : List Int32), lw_P b xs args s := by
  have hs := flat_of_before _ h
  have hq := flat_of_before _ hr
  have hc : (Cond.count 1).before args s = true := hs _ (by decide +kernel)
  have harr : (Cond.arrayOf (.arg 0) .int).before args s = true := hs _ (by decide +kernel)
  have hle : (Cond.le (.length (.arg 0)) (.int 7)).before args s = true := hs _ (by decide +kernel)
  have hlen : (Cond.isInt (.length (.arg 0))).before args s = true := hq _ (by decide +kernel)
  have hall : (Cond.all (.arg 0) (.isInt (.elem (.arg 0) (.index 0)))).before args s = true := hq _ (by decide +kernel)
  obtain ⟨b, xs, hb, hx⟩ := State.ints_of_pre rfl harr hlen hall
  have hsm : xs.length < 2 ^ 31 := hx.choose_spec.2.2.2
  have hev : (Term.length (.arg 0)).eval args s none [] s = some (.int xs.length.toInt32) := hx.length_eval hb
  have hv := Cond.le_ints hev (show (Term.int 7).eval args s none [] s = some (.int 7) from rfl)
  have hd : xs.length.toInt32 ≤ 7 := by
    simpa [Cond.before, Cond.holds, hv] using hle
  have hN : xs.length ≤ 7 := (Int32.ofNat_le_ofNat hsm (by decide)).mp (show Int32.ofNat xs.length ≤ Int32.ofNat 7 from hd)
  exact ⟨b, xs, Cond.one_arg hc (show args[0]? = some (.ref b) from hb), hx, hN, h⟩
theorem lw_comes (l : Launch) : Comes l x (Jvm.Cond.code x code maxLocals ret :: tables_1) room_1 (fun tb e args s => Calls_1 tb e args s ∧ rest_1 tb e args s ∧ Pre_1 tb e args s)
    (fun _ _ args s o t => lw_Q args s o t) := by
  intro p e ha hc hk s m args below hf hfit hheap happ hpre
  obtain ⟨b, xs, hP⟩ := lw_pre_spec hpre.2.2 hpre.2.1
  obtain ⟨k, o, h1, h2, h3, hQ⟩ := lw_walk l b xs p e ha hc hk s m args below hf ((Spec.applies_iff_loose hf).mp happ).1 hP trivial
  exact ⟨k, o, h1, h2, h3, hQ⟩
theorem lw_frame {s t : State} {o : Outcome} {args : Array Value} (h : Framed s o t [] 600000 7302250) :
    Framed s o t (fieldLocs frame_1_writes args s ++ arrayLocs frame_1_arrays args s ++ staticLocs frame_1_statics s) 600000 7302250 := h
theorem lw_limb (L : Cond) (hL : ∀ (args : Array Value) (s t : State), L.after args s (.returned (some (.int 1))) t = true) :
    ArmFor flags0 classFile x code maxLocals ret World_1 tables_1 room_1 Calls_1 rest_1 Pre_1
      (fun tb e a s o t => postC L tb e a s o t ∧ Framed s o t (fieldLocs frame_1_writes a s ++ arrayLocs frame_1_arrays a s ++ staticLocs frame_1_statics s) 600000 7302250) := by
  intro l _ _ _ p e ha hc hk s m args below hf hfit hheap happ hpre
  obtain ⟨k, o, h1, h2, h3, rfl, hF⟩ := lw_comes l p e ha hc hk s m args below hf hfit hheap happ hpre
  exact ⟨k, _, h1, h2, h3, hL args s _, lw_frame hF⟩
theorem i_vc : Claimed_1_1 ∧ Claimed_1_2 := ⟨lw_limb limb_1_1 (fun args s t => by simp [limb_1_1, Cond.after, Cond.holds, Cond.value]), lw_limb limb_1_2 (fun args s t => Cond.after_iff.mpr (by
  first | (rw [show limb_1_2 = Cond.eq .result (.int 1) from rfl, Cond.eq_ints (x := 1) (y := 1) rfl rfl]; simp; done) | (simp [limb_1_2, Cond.value, Term.eval]; done)))⟩

