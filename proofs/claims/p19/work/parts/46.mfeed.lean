theorem dX11_four_0 : decode cX11_four 0 = .ok (.bipush 24, 2) := by decide +kernel
theorem dX11_four_2 : decode cX11_four 2 = .ok (.istore_n 2, 1) := by decide +kernel
theorem dX11_four_3 : decode cX11_four 3 = .ok (.iload_n 2, 1) := by decide +kernel
theorem dX11_four_4 : decode cX11_four 4 = .ok (.ifCond .lt 35, 3) := by decide +kernel
theorem dX11_four_7 : decode cX11_four 7 = .ok (.aload_n 0, 1) := by decide +kernel
theorem dX11_four_8 : decode cX11_four 8 = .ok (.getfield 17, 3) := by decide +kernel
theorem dX11_four_11 : decode cX11_four 11 = .ok (.aload_n 0, 1) := by decide +kernel
theorem dX11_four_12 : decode cX11_four 12 = .ok (.getfield 110, 3) := by decide +kernel
theorem dX11_four_15 : decode cX11_four 15 = .ok (.iload_n 1, 1) := by decide +kernel
theorem dX11_four_16 : decode cX11_four 16 = .ok (.iload_n 2, 1) := by decide +kernel
theorem dX11_four_17 : decode cX11_four 17 = .ok (.ishr, 1) := by decide +kernel
theorem dX11_four_18 : decode cX11_four 18 = .ok (.sipush 255, 3) := by decide +kernel
theorem dX11_four_21 : decode cX11_four 21 = .ok (.iand, 1) := by decide +kernel
theorem dX11_four_22 : decode cX11_four 22 = .ok (.iastore, 1) := by decide +kernel
theorem dX11_four_23 : decode cX11_four 23 = .ok (.aload_n 0, 1) := by decide +kernel
theorem dX11_four_24 : decode cX11_four 24 = .ok (.dup, 1) := by decide +kernel
theorem dX11_four_25 : decode cX11_four 25 = .ok (.getfield 110, 3) := by decide +kernel
theorem dX11_four_28 : decode cX11_four 28 = .ok (.iconst 1, 1) := by decide +kernel
theorem dX11_four_29 : decode cX11_four 29 = .ok (.iadd, 1) := by decide +kernel
theorem dX11_four_30 : decode cX11_four 30 = .ok (.putfield 110, 3) := by decide +kernel
theorem dX11_four_33 : decode cX11_four 33 = .ok (.iinc 2 (-8), 3) := by decide +kernel
theorem dX11_four_36 : decode cX11_four 36 = .ok (.goto (-33), 3) := by decide +kernel
theorem dX11_four_39 : decode cX11_four 39 = .ok (.return_, 1) := by decide +kernel
theorem dX11_feed_0 : decode cX11_feed 0 = .ok (.aload_n 0, 1) := by decide +kernel
theorem dX11_feed_1 : decode cX11_feed 1 = .ok (.getfield 110, 3) := by decide +kernel
theorem dX11_feed_4 : decode cX11_feed 4 = .ok (.bipush 20, 2) := by decide +kernel
theorem dX11_feed_6 : decode cX11_feed 6 = .ok (.iadd, 1) := by decide +kernel
theorem dX11_feed_7 : decode cX11_feed 7 = .ok (.sipush 300, 3) := by decide +kernel
theorem dX11_feed_10 : decode cX11_feed 10 = .ok (.if_icmp .le 5, 3) := by decide +kernel
theorem dX11_feed_13 : decode cX11_feed 13 = .ok (.iconst (-1), 1) := by decide +kernel
theorem dX11_feed_14 : decode cX11_feed 14 = .ok (.ireturn, 1) := by decide +kernel
theorem dX11_feed_15 : decode cX11_feed 15 = .ok (.aload_n 0, 1) := by decide +kernel
theorem dX11_feed_16 : decode cX11_feed 16 = .ok (.iload_n 1, 1) := by decide +kernel
theorem dX11_feed_17 : decode cX11_feed 17 = .ok (.invokevirtual 113, 3) := by decide +kernel
theorem dX11_feed_20 : decode cX11_feed 20 = .ok (.aload_n 0, 1) := by decide +kernel
theorem dX11_feed_21 : decode cX11_feed 21 = .ok (.iload_n 2, 1) := by decide +kernel
theorem dX11_feed_22 : decode cX11_feed 22 = .ok (.invokevirtual 113, 3) := by decide +kernel
theorem dX11_feed_25 : decode cX11_feed 25 = .ok (.aload_n 0, 1) := by decide +kernel
theorem dX11_feed_26 : decode cX11_feed 26 = .ok (.iload_n 3, 1) := by decide +kernel
theorem dX11_feed_27 : decode cX11_feed 27 = .ok (.invokevirtual 113, 3) := by decide +kernel
theorem dX11_feed_30 : decode cX11_feed 30 = .ok (.aload_n 0, 1) := by decide +kernel
theorem dX11_feed_31 : decode cX11_feed 31 = .ok (.iload 4, 2) := by decide +kernel
theorem dX11_feed_33 : decode cX11_feed 33 = .ok (.invokevirtual 113, 3) := by decide +kernel
theorem dX11_feed_36 : decode cX11_feed 36 = .ok (.aload_n 0, 1) := by decide +kernel
theorem dX11_feed_37 : decode cX11_feed 37 = .ok (.iload 5, 2) := by decide +kernel
theorem dX11_feed_39 : decode cX11_feed 39 = .ok (.invokevirtual 113, 3) := by decide +kernel
theorem dX11_feed_42 : decode cX11_feed 42 = .ok (.aload_n 0, 1) := by decide +kernel
theorem dX11_feed_43 : decode cX11_feed 43 = .ok (.getfield 110, 3) := by decide +kernel
theorem dX11_feed_46 : decode cX11_feed 46 = .ok (.ireturn, 1) := by decide +kernel
set_option maxRecDepth 20000 in
theorem ggX11_feed_X11_four : GoodIn wsX11_feed wsX11_four := goodIn_r _ [6, 7, 1, 8, 9, 10, 11, 12, 13, 14, 15, 16, 17, 18, 19, 20, 21, 22, 23, 24, 25, 26, 27, 28, 29, 30, 31, 32, 33, 34, 35, 36, 37, 38, 39, 40, 41, 42, 43, 44, 45, 46, 47, 48, 49, 50, 51, 52, 53, 54] (by decide +kernel) (by decide +kernel)
set_option maxRecDepth 20000 in
theorem gX11_feed_X11_four : GoodIn wsX11_feed (wsV RX11 113 RX11 yX11_four wsX11_four) := goodIn_app (goodIn_of _ (by decide +kernel)) ggX11_feed_X11_four
set_option maxRecDepth 100000 in
set_option maxHeartbeats 4000000 in
theorem c_fourG (l : Launch) (D : va_G) (cI cR cM : ClassId) (sz : Nat) {jn : Nat} (mm : Nat) (q : Nat → Nat) (v : Nat → Int32) (F : Nat → Nat → Int32) {tn : Nat} (htn : tn + 4 ≤ 300) (etn : v 2 = nI tn) (x : Int32) : Met l yX11_four wsX11_four ({ frames := 0, cells := 0, slots := 0, locals := 0 }) (P0 D cI cR cM [.ref mm, .int x] sz (mW mm q jn cI v F)) (QG (S := (Nat → Int32) × (Nat → Nat → Int32)) (fun _ => none) (fun u => mW mm q jn cI u.1 u.2) (fun u => ∃ g, u.1 = upd v 2 (nI (tn + 4)) ∧ u.2 = updA F 2 g) D (va_A (mW mm q jn cI v F) sz)) 0 0 (va_A (mW mm q jn cI v F) sz) := by
  refine go (cc := cX11_four) (maxL := 3) (ret := none) (by decide) rfl (Nat.le_of_ble_eq_true rfl) ?_
  intro p e s m below meth c ls args Q hQ hsz hx hb hr hml hts hown hlocks hnm hP hK hD hl
  subst hsz
  have hD := hD.self (sz := s.heap.size)
  generalize hAe : va_A (mW mm q jn cI v F) s.heap.size = A at hD hQ
  have hA : ∀ q, s.heap.size ≤ q → A q := fun q h => by rw [← hAe]; exact Or.inr h
  have hS : va_S A s.heap s.heap [] := va_S.rf
  have hl : lv_has ls 3 [(0, .ref mm), (1, .int x)] := hl
  refine lv_bipush (v := 24) hx hb dX11_four_0 (by decide) ?_
  refine lv_istore_n (lv' := [(2, .int 24), (0, .ref mm), (1, .int x)]) hx hb dX11_four_2 rfl hl (by decide) rfl (fun ls hl => ?_)
  refine lv_iload_n hx hb dX11_four_3 rfl (lv_at hl 0 rfl) ?_
  refine lv_if_lt (tgt := 39) hx hb dX11_four_4 (by decide) (fun c4 => absurd c4 (by decide)) (fun c4 => ?_)
  refine lv_aload_n hx hb dX11_four_7 rfl (lv_at hl 1 rfl) ?_
  refine va_get (D := D) (ci := 11) (v := .ref (q 2)) (C := RX11) (T := TX11) (N := 47) hx hb hts (by decide +kernel) hown hK.1 hP 0 rfl rfl 5 (by decide) (hts (.fieldLink RX11 17 "JugglingHallModel" "tape" "[I") (by decide +kernel)) (fun _ h9 => h9) rfl dX11_four_8 ?_
  refine lv_aload_n hx hb dX11_four_11 rfl (lv_at hl 1 rfl) ?_
  refine va_get (D := D) (ci := 11) (v := .int (v 2)) (C := RX11) (T := TX11) (N := 47) hx hb hts (by decide +kernel) hown hK.1 hP 0 rfl rfl 6 (by decide) (hts (.fieldLink RX11 110 "JugglingHallModel" "taped" "I") (by decide +kernel)) (fun _ h9 => h9) rfl dX11_four_12 ?_
  refine lv_eqi (y := nI tn) (etn) ?_
  refine lv_iload_n hx hb dX11_four_15 rfl (lv_at hl 2 rfl) ?_
  refine lv_iload_n hx hb dX11_four_16 rfl (lv_at hl 0 rfl) ?_
  refine lv_ishr hx hb dX11_four_17 ?_
  refine lv_sipush (v := 255) hx hb dX11_four_18 (by decide) ?_
  refine lv_iand hx hb dX11_four_21 ?_
  refine ast_n (f := F 2) (k := tn) hx hb hK.1 hP hD hS 3 0 rfl rfl (by omega) (by decide) dX11_four_22 (fun H locs hP hD hS => ?_)
  rw [mWa_2] at hP hD
  generalize (upd (F 2) tn (((x : Int32) >>> ((24 : Int32) &&& 31)) &&& 255)) = f1 at hP hD
  refine lv_aload_n hx hb dX11_four_23 rfl (lv_at hl 1 rfl) ?_
  refine lv_dup hx hb dX11_four_24 rfl ?_
  refine va_get (D := D) (ci := 11) (v := .int (v 2)) (C := RX11) (T := TX11) (N := 47) hx hb hts (by decide +kernel) hown hK.1 hP 0 rfl rfl 6 (by decide) (hts (.fieldLink RX11 110 "JugglingHallModel" "taped" "I") (by decide +kernel)) (fun _ h9 => h9) rfl dX11_four_25 ?_
  refine lv_eqi (y := nI tn) (etn) ?_
  refine lv_iconst (v := 1) hx hb dX11_four_28 (by decide) ?_
  refine lv_iadd hx hb dX11_four_29 ?_
  obtain ⟨y1, ez1⟩ : ∃ y : Int32, y = nI (tn + 1) := ⟨_, rfl⟩
  have ey1 := ez1
  refine lv_eqi (y := y1) ((nI_1 _).trans ez1.symm) ?_
  refine va_put (D := D) (ci := 11) (v := .int y1) (ty := .int) (C := RX11) (T := TX11) (N := 47) (fs := mF q jn v) hx hb hts (by decide +kernel) tyX11 tyX11_ok nmX11 hown hK.1 hP hD hS 0 rfl rfl 6 (by decide) (hts (.fieldLink RX11 110 "JugglingHallModel" "taped" "I") (by decide +kernel)) (fun _ h9 => h9) rfl (by decide +kernel) rfl rfl (Nat.le_of_ble_eq_true rfl) dX11_four_30 (fun H locs hP hD hS => ?_)
  rw [mWp_2] at hP hD
  refine lv_iinc (v := 16) (lv' := [(2, .int 16), (0, .ref mm), (1, .int x)]) hx hb dX11_four_33 hl (k := 0) rfl (by decide) (by decide) rfl (fun ls hl => ?_)
  refine lv_goto (tgt := 3) hx hb dX11_four_36 (by decide) ?_
  refine lv_iload_n hx hb dX11_four_3 rfl (lv_at hl 0 rfl) ?_
  refine lv_if_lt (tgt := 39) hx hb dX11_four_4 (by decide) (fun c4 => absurd c4 (by decide)) (fun c4 => ?_)
  refine lv_aload_n hx hb dX11_four_7 rfl (lv_at hl 1 rfl) ?_
  refine va_get (D := D) (ci := 11) (v := .ref (q 2)) (C := RX11) (T := TX11) (N := 47) hx hb hts (by decide +kernel) hown hK.1 hP 0 rfl rfl 5 (by decide) (hts (.fieldLink RX11 17 "JugglingHallModel" "tape" "[I") (by decide +kernel)) (fun _ h9 => h9) rfl dX11_four_8 ?_
  refine lv_aload_n hx hb dX11_four_11 rfl (lv_at hl 1 rfl) ?_
  refine va_get (D := D) (ci := 11) (v := .int y1) (C := RX11) (T := TX11) (N := 47) hx hb hts (by decide +kernel) hown hK.1 hP 0 rfl rfl 6 (by decide) (hts (.fieldLink RX11 110 "JugglingHallModel" "taped" "I") (by decide +kernel)) (fun _ h9 => h9) rfl dX11_four_12 ?_
  refine lv_eqi (y := nI (tn + 1)) (ey1) ?_
  refine lv_iload_n hx hb dX11_four_15 rfl (lv_at hl 2 rfl) ?_
  refine lv_iload_n hx hb dX11_four_16 rfl (lv_at hl 0 rfl) ?_
  refine lv_ishr hx hb dX11_four_17 ?_
  refine lv_sipush (v := 255) hx hb dX11_four_18 (by decide) ?_
  refine lv_iand hx hb dX11_four_21 ?_
  refine ast_n (f := f1) (k := tn + 1) hx hb hK.1 hP hD hS 3 0 rfl rfl (by omega) (by decide) dX11_four_22 (fun H locs hP hD hS => ?_)
  rw [mWa_2] at hP hD
  rw [updA_same] at hP hD
  generalize (upd f1 (tn + 1) (((x : Int32) >>> ((16 : Int32) &&& 31)) &&& 255)) = f2 at hP hD
  refine lv_aload_n hx hb dX11_four_23 rfl (lv_at hl 1 rfl) ?_
  refine lv_dup hx hb dX11_four_24 rfl ?_
  refine va_get (D := D) (ci := 11) (v := .int y1) (C := RX11) (T := TX11) (N := 47) hx hb hts (by decide +kernel) hown hK.1 hP 0 rfl rfl 6 (by decide) (hts (.fieldLink RX11 110 "JugglingHallModel" "taped" "I") (by decide +kernel)) (fun _ h9 => h9) rfl dX11_four_25 ?_
  refine lv_eqi (y := nI (tn + 1)) (ey1) ?_
  refine lv_iconst (v := 1) hx hb dX11_four_28 (by decide) ?_
  refine lv_iadd hx hb dX11_four_29 ?_
  obtain ⟨y2, ez2⟩ : ∃ y : Int32, y = nI (tn + 2) := ⟨_, rfl⟩
  have ey2 := ez2
  refine lv_eqi (y := y2) ((nI_1 _).trans ez2.symm) ?_
  refine va_put (D := D) (ci := 11) (v := .int y2) (ty := .int) (C := RX11) (T := TX11) (N := 47) (fs := mF q jn (upd v 2 y1)) hx hb hts (by decide +kernel) tyX11 tyX11_ok nmX11 hown hK.1 hP hD hS 0 rfl rfl 6 (by decide) (hts (.fieldLink RX11 110 "JugglingHallModel" "taped" "I") (by decide +kernel)) (fun _ h9 => h9) rfl (by decide +kernel) rfl rfl (Nat.le_of_ble_eq_true rfl) dX11_four_30 (fun H locs hP hD hS => ?_)
  rw [mWp_2] at hP hD
  rw [upd_same] at hP hD
  refine lv_iinc (v := 8) (lv' := [(2, .int 8), (0, .ref mm), (1, .int x)]) hx hb dX11_four_33 hl (k := 0) rfl (by decide) (by decide) rfl (fun ls hl => ?_)
  refine lv_goto (tgt := 3) hx hb dX11_four_36 (by decide) ?_
  refine lv_iload_n hx hb dX11_four_3 rfl (lv_at hl 0 rfl) ?_
  refine lv_if_lt (tgt := 39) hx hb dX11_four_4 (by decide) (fun c4 => absurd c4 (by decide)) (fun c4 => ?_)
  refine lv_aload_n hx hb dX11_four_7 rfl (lv_at hl 1 rfl) ?_
  refine va_get (D := D) (ci := 11) (v := .ref (q 2)) (C := RX11) (T := TX11) (N := 47) hx hb hts (by decide +kernel) hown hK.1 hP 0 rfl rfl 5 (by decide) (hts (.fieldLink RX11 17 "JugglingHallModel" "tape" "[I") (by decide +kernel)) (fun _ h9 => h9) rfl dX11_four_8 ?_
  refine lv_aload_n hx hb dX11_four_11 rfl (lv_at hl 1 rfl) ?_
  refine va_get (D := D) (ci := 11) (v := .int y2) (C := RX11) (T := TX11) (N := 47) hx hb hts (by decide +kernel) hown hK.1 hP 0 rfl rfl 6 (by decide) (hts (.fieldLink RX11 110 "JugglingHallModel" "taped" "I") (by decide +kernel)) (fun _ h9 => h9) rfl dX11_four_12 ?_
  refine lv_eqi (y := nI (tn + 2)) (ey2) ?_
  refine lv_iload_n hx hb dX11_four_15 rfl (lv_at hl 2 rfl) ?_
  refine lv_iload_n hx hb dX11_four_16 rfl (lv_at hl 0 rfl) ?_
  refine lv_ishr hx hb dX11_four_17 ?_
  refine lv_sipush (v := 255) hx hb dX11_four_18 (by decide) ?_
  refine lv_iand hx hb dX11_four_21 ?_
  refine ast_n (f := f2) (k := tn + 2) hx hb hK.1 hP hD hS 3 0 rfl rfl (by omega) (by decide) dX11_four_22 (fun H locs hP hD hS => ?_)
  rw [mWa_2] at hP hD
  rw [updA_same] at hP hD
  generalize (upd f2 (tn + 2) (((x : Int32) >>> ((8 : Int32) &&& 31)) &&& 255)) = f3 at hP hD
  refine lv_aload_n hx hb dX11_four_23 rfl (lv_at hl 1 rfl) ?_
  refine lv_dup hx hb dX11_four_24 rfl ?_
  refine va_get (D := D) (ci := 11) (v := .int y2) (C := RX11) (T := TX11) (N := 47) hx hb hts (by decide +kernel) hown hK.1 hP 0 rfl rfl 6 (by decide) (hts (.fieldLink RX11 110 "JugglingHallModel" "taped" "I") (by decide +kernel)) (fun _ h9 => h9) rfl dX11_four_25 ?_
  refine lv_eqi (y := nI (tn + 2)) (ey2) ?_
  refine lv_iconst (v := 1) hx hb dX11_four_28 (by decide) ?_
  refine lv_iadd hx hb dX11_four_29 ?_
  obtain ⟨y3, ez3⟩ : ∃ y : Int32, y = nI (tn + 3) := ⟨_, rfl⟩
  have ey3 := ez3
  refine lv_eqi (y := y3) ((nI_1 _).trans ez3.symm) ?_
  refine va_put (D := D) (ci := 11) (v := .int y3) (ty := .int) (C := RX11) (T := TX11) (N := 47) (fs := mF q jn (upd v 2 y2)) hx hb hts (by decide +kernel) tyX11 tyX11_ok nmX11 hown hK.1 hP hD hS 0 rfl rfl 6 (by decide) (hts (.fieldLink RX11 110 "JugglingHallModel" "taped" "I") (by decide +kernel)) (fun _ h9 => h9) rfl (by decide +kernel) rfl rfl (Nat.le_of_ble_eq_true rfl) dX11_four_30 (fun H locs hP hD hS => ?_)
  rw [mWp_2] at hP hD
  rw [upd_same] at hP hD
  refine lv_iinc (v := 0) (lv' := [(2, .int 0), (0, .ref mm), (1, .int x)]) hx hb dX11_four_33 hl (k := 0) rfl (by decide) (by decide) rfl (fun ls hl => ?_)
  refine lv_goto (tgt := 3) hx hb dX11_four_36 (by decide) ?_
  refine lv_iload_n hx hb dX11_four_3 rfl (lv_at hl 0 rfl) ?_
  refine lv_if_lt (tgt := 39) hx hb dX11_four_4 (by decide) (fun c4 => absurd c4 (by decide)) (fun c4 => ?_)
  refine lv_aload_n hx hb dX11_four_7 rfl (lv_at hl 1 rfl) ?_
  refine va_get (D := D) (ci := 11) (v := .ref (q 2)) (C := RX11) (T := TX11) (N := 47) hx hb hts (by decide +kernel) hown hK.1 hP 0 rfl rfl 5 (by decide) (hts (.fieldLink RX11 17 "JugglingHallModel" "tape" "[I") (by decide +kernel)) (fun _ h9 => h9) rfl dX11_four_8 ?_
  refine lv_aload_n hx hb dX11_four_11 rfl (lv_at hl 1 rfl) ?_
  refine va_get (D := D) (ci := 11) (v := .int y3) (C := RX11) (T := TX11) (N := 47) hx hb hts (by decide +kernel) hown hK.1 hP 0 rfl rfl 6 (by decide) (hts (.fieldLink RX11 110 "JugglingHallModel" "taped" "I") (by decide +kernel)) (fun _ h9 => h9) rfl dX11_four_12 ?_
  refine lv_eqi (y := nI (tn + 3)) (ey3) ?_
  refine lv_iload_n hx hb dX11_four_15 rfl (lv_at hl 2 rfl) ?_
  refine lv_iload_n hx hb dX11_four_16 rfl (lv_at hl 0 rfl) ?_
  refine lv_ishr hx hb dX11_four_17 ?_
  refine lv_sipush (v := 255) hx hb dX11_four_18 (by decide) ?_
  refine lv_iand hx hb dX11_four_21 ?_
  refine ast_n (f := f3) (k := tn + 3) hx hb hK.1 hP hD hS 3 0 rfl rfl (by omega) (by decide) dX11_four_22 (fun H locs hP hD hS => ?_)
  rw [mWa_2] at hP hD
  rw [updA_same] at hP hD
  generalize (upd f3 (tn + 3) (((x : Int32) >>> ((0 : Int32) &&& 31)) &&& 255)) = f4 at hP hD
  refine lv_aload_n hx hb dX11_four_23 rfl (lv_at hl 1 rfl) ?_
  refine lv_dup hx hb dX11_four_24 rfl ?_
  refine va_get (D := D) (ci := 11) (v := .int y3) (C := RX11) (T := TX11) (N := 47) hx hb hts (by decide +kernel) hown hK.1 hP 0 rfl rfl 6 (by decide) (hts (.fieldLink RX11 110 "JugglingHallModel" "taped" "I") (by decide +kernel)) (fun _ h9 => h9) rfl dX11_four_25 ?_
  refine lv_eqi (y := nI (tn + 3)) (ey3) ?_
  refine lv_iconst (v := 1) hx hb dX11_four_28 (by decide) ?_
  refine lv_iadd hx hb dX11_four_29 ?_
  obtain ⟨y4, ez4⟩ : ∃ y : Int32, y = nI (tn + 4) := ⟨_, rfl⟩
  have ey4 := ez4
  refine lv_eqi (y := y4) ((nI_1 _).trans ez4.symm) ?_
  refine va_put (D := D) (ci := 11) (v := .int y4) (ty := .int) (C := RX11) (T := TX11) (N := 47) (fs := mF q jn (upd v 2 y3)) hx hb hts (by decide +kernel) tyX11 tyX11_ok nmX11 hown hK.1 hP hD hS 0 rfl rfl 6 (by decide) (hts (.fieldLink RX11 110 "JugglingHallModel" "taped" "I") (by decide +kernel)) (fun _ h9 => h9) rfl (by decide +kernel) rfl rfl (Nat.le_of_ble_eq_true rfl) dX11_four_30 (fun H locs hP hD hS => ?_)
  rw [mWp_2] at hP hD
  rw [upd_same] at hP hD
  refine lv_iinc (v := (-8)) (lv' := [(2, .int (-8)), (0, .ref mm), (1, .int x)]) hx hb dX11_four_33 hl (k := 0) rfl (by decide) (by decide) rfl (fun ls hl => ?_)
  refine lv_goto (tgt := 3) hx hb dX11_four_36 (by decide) ?_
  refine lv_iload_n hx hb dX11_four_3 rfl (lv_at hl 0 rfl) ?_
  refine lv_if_lt (tgt := 39) hx hb dX11_four_4 (by decide) (fun c4 => ?_) (fun c4 => absurd (by decide) c4)
  exact g_vret ((upd v 2 y4), (updA F 2 f4)) hx hb hr hlocks hS rfl (⟨f4, by rw [ey4], rfl⟩) hP hD hQ (Nat.le_of_ble_eq_true rfl) (Nat.le_of_ble_eq_true rfl) dX11_four_39
set_option maxRecDepth 100000 in
set_option maxHeartbeats 4000000 in
theorem c_feedG (l : Launch) (D : va_G) (cI cR cM : ClassId) (sz : Nat) {jn : Nat} (mm : Nat) (q : Nat → Nat) (v : Nat → Int32) (F : Nat → Nat → Int32) {tn : Nat} (htn : tn ≤ 300) (etn : v 2 = nI tn) (i0 i1 i2 i3 i4 : Int32) : Met l yX11_feed wsX11_feed ({ frames := 1, cells := 0, slots := 0, locals := 22 }) (P0 D cI cR cM [.ref mm, .int i0, .int i1, .int i2, .int i3, .int i4] sz (mW mm q jn cI v F)) (QG (S := Int32 × (Nat → Int32) × (Nat → Nat → Int32)) (fun u => some (.int u.1)) (fun u => mW mm q jn cI u.2.1 u.2.2) (fun u => (u.2.1 = v ∧ u.2.2 = F) ∨ (tn + 20 ≤ 300 ∧ ∃ g, u.2.1 = upd v 2 (nI (tn + 20)) ∧ u.2.2 = updA F 2 g)) D (va_A (mW mm q jn cI v F) sz)) 0 0 (va_A (mW mm q jn cI v F) sz) := by
  refine go (cc := cX11_feed) (maxL := 6) (ret := (some .int)) (by decide) rfl (Nat.le_of_ble_eq_true rfl) ?_
  intro p e s m below meth c ls args Q hQ hsz hx hb hr hml hts hown hlocks hnm hP hK hD hl
  subst hsz
  have hD := hD.self (sz := s.heap.size)
  generalize hAe : va_A (mW mm q jn cI v F) s.heap.size = A at hD hQ
  have hA : ∀ q, s.heap.size ≤ q → A q := fun q h => by rw [← hAe]; exact Or.inr h
  have hS : va_S A s.heap s.heap [] := va_S.rf
  have hl : lv_has ls 6 [(0, .ref mm), (1, .int i0), (2, .int i1), (3, .int i2), (4, .int i3), (5, .int i4)] := hl
  refine lv_aload_n hx hb dX11_feed_0 rfl (lv_at hl 0 rfl) ?_
  refine va_get (D := D) (ci := 11) (v := .int (v 2)) (C := RX11) (T := TX11) (N := 47) hx hb hts (by decide +kernel) hown hK.1 hP 0 rfl rfl 6 (by decide) (hts (.fieldLink RX11 110 "JugglingHallModel" "taped" "I") (by decide +kernel)) (fun _ h9 => h9) rfl dX11_feed_1 ?_
  refine lv_eqi (y := nI tn) (etn) ?_
  refine lv_bipush (v := 20) hx hb dX11_feed_4 (by decide) ?_
  refine lv_eqi (y := nI 20) (rfl) ?_
  refine lv_iadd hx hb dX11_feed_6 ?_
  refine lv_eqi (y := nI (tn + 20)) (nI_add _ _) ?_
  refine lv_sipush (v := 300) hx hb dX11_feed_7 (by decide) ?_
  refine lv_icmp_le (tgt := 15) hx hb dX11_feed_10 (by decide) (fun c10 => ?_) (fun c10 => ?_)
  · have h20 : tn + 20 ≤ 300 := (nI_leI (b := 300) (by omega) (by decide)).mp c10
    refine lv_aload_n hx hb dX11_feed_15 rfl (lv_at hl 0 rfl) ?_
    refine lv_iload_n hx hb dX11_feed_16 rfl (lv_at hl 1 rfl) ?_
    refine call_g (wr := []) (va_runV (As := [.int i0]) (rest := []) ⟨hx, hb, hml, hown, hts⟩ (c_fourG l D cI cR cM _ mm q v F (tn := tn) (by omega) (etn) i0) (cwV 1 hts gX11_feed_X11_four rfl rfl rfl (by decide +kernel) ⟨Nat.le_of_ble_eq_true rfl, Nat.le_of_ble_eq_true rfl⟩) (pre_V hK hP hD 0 11 rfl rfl) rfl rfl hl.1 rfl (lv_room (Nat.le_of_ble_eq_true rfl)) dX11_feed_17 ⟨Nat.le_of_ble_eq_true rfl, Nat.le_of_ble_eq_true rfl⟩) hP hD hS hA [0, 1, 2, 3, 4, 5, 6, 7, 8, 9, 10, 11, 12, 13, 14, 15, 16, 17, 18, 19, 20, 21, 22, 23, 24, 25] [] (by with_unfolding_all rfl) rfl (by decide) (by decide) (fun u1 H locs hw hP hD hS => ?_)
    obtain ⟨v1, F1⟩ := u1
    obtain ⟨g1, ev1, eF1⟩ := hw
    have ev1 : v1 = upd v 2 (nI (tn + 4)) := ev1
    have eF1 : F1 = updA F 2 g1 := eF1
    have hP : va_P D vwCl (mW mm q jn cI v1 F1) H := hP
    have hD : va_D A (mW mm q jn cI v1 F1) := hD
    refine lv_aload_n hx hb dX11_feed_20 rfl (lv_at hl 0 rfl) ?_
    refine lv_iload_n hx hb dX11_feed_21 rfl (lv_at hl 2 rfl) ?_
    refine call_g (wr := []) (va_runV (As := [.int i1]) (rest := []) ⟨hx, hb, hml, hown, hts⟩ (c_fourG l D cI cR cM _ mm q v1 F1 (tn := tn + 4) (by omega) (by rw [ev1]; exact pk_us) i1) (cwV 1 hts gX11_feed_X11_four rfl rfl rfl (by decide +kernel) ⟨Nat.le_of_ble_eq_true rfl, Nat.le_of_ble_eq_true rfl⟩) (pre_V hK hP hD 0 11 rfl rfl) rfl rfl hl.1 rfl (lv_room (Nat.le_of_ble_eq_true rfl)) dX11_feed_22 ⟨Nat.le_of_ble_eq_true rfl, Nat.le_of_ble_eq_true rfl⟩) hP hD hS hA [0, 1, 2, 3, 4, 5, 6, 7, 8, 9, 10, 11, 12, 13, 14, 15, 16, 17, 18, 19, 20, 21, 22, 23, 24, 25] [] (by with_unfolding_all rfl) rfl (by decide) (by decide) (fun u2 H locs hw hP hD hS => ?_)
    obtain ⟨v2, F2⟩ := u2
    obtain ⟨g2, ev2, eF2⟩ := hw
    have ev2 : v2 = upd v 2 (nI (tn + 8)) := ev2.trans (by rw [ev1]; exact upd_same _ _ _ _)
    have eF2 : F2 = updA F 2 g2 := eF2.trans (by rw [eF1]; exact updA_same _ _ _ _)
    have hP : va_P D vwCl (mW mm q jn cI v2 F2) H := hP
    have hD : va_D A (mW mm q jn cI v2 F2) := hD
    refine lv_aload_n hx hb dX11_feed_25 rfl (lv_at hl 0 rfl) ?_
    refine lv_iload_n hx hb dX11_feed_26 rfl (lv_at hl 3 rfl) ?_
    refine call_g (wr := []) (va_runV (As := [.int i2]) (rest := []) ⟨hx, hb, hml, hown, hts⟩ (c_fourG l D cI cR cM _ mm q v2 F2 (tn := tn + 8) (by omega) (by rw [ev2]; exact pk_us) i2) (cwV 1 hts gX11_feed_X11_four rfl rfl rfl (by decide +kernel) ⟨Nat.le_of_ble_eq_true rfl, Nat.le_of_ble_eq_true rfl⟩) (pre_V hK hP hD 0 11 rfl rfl) rfl rfl hl.1 rfl (lv_room (Nat.le_of_ble_eq_true rfl)) dX11_feed_27 ⟨Nat.le_of_ble_eq_true rfl, Nat.le_of_ble_eq_true rfl⟩) hP hD hS hA [0, 1, 2, 3, 4, 5, 6, 7, 8, 9, 10, 11, 12, 13, 14, 15, 16, 17, 18, 19, 20, 21, 22, 23, 24, 25] [] (by with_unfolding_all rfl) rfl (by decide) (by decide) (fun u3 H locs hw hP hD hS => ?_)
    obtain ⟨v3, F3⟩ := u3
    obtain ⟨g3, ev3, eF3⟩ := hw
    have ev3 : v3 = upd v 2 (nI (tn + 12)) := ev3.trans (by rw [ev2]; exact upd_same _ _ _ _)
    have eF3 : F3 = updA F 2 g3 := eF3.trans (by rw [eF2]; exact updA_same _ _ _ _)
    have hP : va_P D vwCl (mW mm q jn cI v3 F3) H := hP
    have hD : va_D A (mW mm q jn cI v3 F3) := hD
    refine lv_aload_n hx hb dX11_feed_30 rfl (lv_at hl 0 rfl) ?_
    refine lv_iload hx hb dX11_feed_31 (lv_at hl 4 rfl) ?_
    refine call_g (wr := []) (va_runV (As := [.int i3]) (rest := []) ⟨hx, hb, hml, hown, hts⟩ (c_fourG l D cI cR cM _ mm q v3 F3 (tn := tn + 12) (by omega) (by rw [ev3]; exact pk_us) i3) (cwV 1 hts gX11_feed_X11_four rfl rfl rfl (by decide +kernel) ⟨Nat.le_of_ble_eq_true rfl, Nat.le_of_ble_eq_true rfl⟩) (pre_V hK hP hD 0 11 rfl rfl) rfl rfl hl.1 rfl (lv_room (Nat.le_of_ble_eq_true rfl)) dX11_feed_33 ⟨Nat.le_of_ble_eq_true rfl, Nat.le_of_ble_eq_true rfl⟩) hP hD hS hA [0, 1, 2, 3, 4, 5, 6, 7, 8, 9, 10, 11, 12, 13, 14, 15, 16, 17, 18, 19, 20, 21, 22, 23, 24, 25] [] (by with_unfolding_all rfl) rfl (by decide) (by decide) (fun u4 H locs hw hP hD hS => ?_)
    obtain ⟨v4, F4⟩ := u4
    obtain ⟨g4, ev4, eF4⟩ := hw
    have ev4 : v4 = upd v 2 (nI (tn + 16)) := ev4.trans (by rw [ev3]; exact upd_same _ _ _ _)
    have eF4 : F4 = updA F 2 g4 := eF4.trans (by rw [eF3]; exact updA_same _ _ _ _)
    have hP : va_P D vwCl (mW mm q jn cI v4 F4) H := hP
    have hD : va_D A (mW mm q jn cI v4 F4) := hD
    refine lv_aload_n hx hb dX11_feed_36 rfl (lv_at hl 0 rfl) ?_
    refine lv_iload hx hb dX11_feed_37 (lv_at hl 5 rfl) ?_
    refine call_g (wr := []) (va_runV (As := [.int i4]) (rest := []) ⟨hx, hb, hml, hown, hts⟩ (c_fourG l D cI cR cM _ mm q v4 F4 (tn := tn + 16) (by omega) (by rw [ev4]; exact pk_us) i4) (cwV 1 hts gX11_feed_X11_four rfl rfl rfl (by decide +kernel) ⟨Nat.le_of_ble_eq_true rfl, Nat.le_of_ble_eq_true rfl⟩) (pre_V hK hP hD 0 11 rfl rfl) rfl rfl hl.1 rfl (lv_room (Nat.le_of_ble_eq_true rfl)) dX11_feed_39 ⟨Nat.le_of_ble_eq_true rfl, Nat.le_of_ble_eq_true rfl⟩) hP hD hS hA [0, 1, 2, 3, 4, 5, 6, 7, 8, 9, 10, 11, 12, 13, 14, 15, 16, 17, 18, 19, 20, 21, 22, 23, 24, 25] [] (by with_unfolding_all rfl) rfl (by decide) (by decide) (fun u5 H locs hw hP hD hS => ?_)
    obtain ⟨v5, F5⟩ := u5
    obtain ⟨g5, ev5, eF5⟩ := hw
    have ev5 : v5 = upd v 2 (nI (tn + 20)) := ev5.trans (by rw [ev4]; exact upd_same _ _ _ _)
    have eF5 : F5 = updA F 2 g5 := eF5.trans (by rw [eF4]; exact updA_same _ _ _ _)
    have hP : va_P D vwCl (mW mm q jn cI v5 F5) H := hP
    have hD : va_D A (mW mm q jn cI v5 F5) := hD
    refine lv_aload_n hx hb dX11_feed_42 rfl (lv_at hl 0 rfl) ?_
    refine va_get (D := D) (ci := 11) (v := .int (v5 2)) (C := RX11) (T := TX11) (N := 47) hx hb hts (by decide +kernel) hown hK.1 hP 0 rfl rfl 6 (by decide) (hts (.fieldLink RX11 110 "JugglingHallModel" "taped" "I") (by decide +kernel)) (fun _ h9 => h9) rfl dX11_feed_43 ?_
    exact g_iret (v5 2, v5, F5) hx hb hr hlocks hS rfl (Or.inr ⟨h20, g5, ev5, eF5⟩) hP hD hQ (Nat.le_of_ble_eq_true rfl) (Nat.le_of_ble_eq_true rfl) dX11_feed_46
  · refine lv_iconst (v := (-1)) hx hb dX11_feed_13 (by decide) ?_
    exact g_iret ((-1), v, F) hx hb hr hlocks hS rfl (Or.inl ⟨rfl, rfl⟩) hP hD hQ (Nat.le_of_ble_eq_true rfl) (Nat.le_of_ble_eq_true rfl) dX11_feed_14
