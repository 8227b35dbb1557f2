set_option maxRecDepth 100000 in
set_option maxHeartbeats 4000000 in
theorem t_X6_hasRoomm (l : Launch) (D : va_G) (cI cR cM : ClassId) (sz : Nat) {jn : Nat} {g : Nat → Nat} {L : List Nat} {S : Sg} {f : Nat → va_E} {x : Int32} {ln9 st9 : Int32} {ch9 cl9 : Nat → Int32} (hj : 1 ≤ jn ∧ jn ≤ 3) (hG : SG g L S) (hI : IN jn cI cR cM g L S f) (hj1 : jn = 1) (hsh : ShX cI g f ln9 st9 ch9 cl9) (hx0 : 0 ≤ x.toInt ∧ x.toInt ≤ 10000) : Met l yX6_hasRoom wsX6_hasRoom ({ frames := 0, cells := 0, slots := 0, locals := 0 }) (P0 D cI cR cM [.ref (g 17), .int x] sz (va_pl L f)) (QP (fun r => ((r.toInt = 1 ∧ ln9.toInt + x.toInt ≤ 300) ∨ (r.toInt = 0 ∧ 300 < ln9.toInt + x.toInt)) ∧ (r.toInt = 0 ∨ r.toInt = 1)) sz) 0 0 (va_A [] sz) := by
  refine go (cc := cX6_hasRoom) (maxL := 2) (ret := (some .boolean)) (by decide +kernel) rfl (Nat.le_of_ble_eq_true rfl) ?_
  intro p e s m below meth c ls args Q hQ hsz hx hb hr hml hts hown hlocks hnm hP hK hD hl
  subst hsz
  have hS : va_S (va_A [] s.heap.size) s.heap s.heap [] := va_S.rf
  have hA : ∀ q, s.heap.size ≤ q → va_A [] s.heap.size q := fun q h => Or.inr h
  have hl : lv_has ls 2 [(0, .ref (g 17)), (1, .int x)] := hl
  obtain ⟨jv0_1, jv1_1⟩ := iv_17 hI (gm_17 hG) (gs_17 hG) hsh.1
  refine lv_aload_n hx hb dX6_hasRoom_0 rfl (lv_at hl 0 rfl) ?_
  refine t_get (D := D) (L := L) (f := f) (ci := 6) (v := .int ln9) (C := RX6) (T := TX6) (N := 4) hx hb hts (by decide +kernel) hown hK.1 hP (gm_17 hG) hsh.1 rfl 2 (by decide) (hts (.fieldLink RX6 16 "JugglingHall$Sheet" "length" "I") (by decide +kernel)) (fun _ h9 => h9) rfl dX6_hasRoom_1 ?_
  refine lv_iload_n hx hb dX6_hasRoom_4 rfl (lv_at hl 1 rfl) ?_
  refine a_iadd (u := ln9.toInt) (v := x.toInt) hx hb dX6_hasRoom_5 (rfl) (rfl) (by subst hj1; omega) (fun z_2 e_2 => ?_)
  refine lv_sipush (v := 300) hx hb dX6_hasRoom_6 (by decide) ?_
  refine a_icmp_gt (u := (ln9.toInt + x.toInt)) (v := 300) (tgt := 16) hx hb dX6_hasRoom_9 (by decide) (e_2) (by decide) (fun c_3 => ?_) (fun c_3 => ?_)
  · refine lv_iconst (v := 0) hx hb dX6_hasRoom_16 (by decide) ?_
    have hz_4 : (0 : Int32).toInt = 0 := by decide
    exact rp_zret hx hb hr hlocks hS (by first | exact Or.inl rfl | exact Or.inr rfl) (⟨show ((0 : Int32).toInt = 1 ∧ ln9.toInt + x.toInt ≤ 300) ∨ ((0 : Int32).toInt = 0 ∧ 300 < ln9.toInt + x.toInt) from (by first | assumption | omega | (subst hj1; omega)), show (0 : Int32).toInt = 0 ∨ (0 : Int32).toInt = 1 from (by first | assumption | omega | (subst hj1; omega))⟩) hQ dX6_hasRoom_17
  · refine lv_iconst (v := 1) hx hb dX6_hasRoom_12 (by decide) ?_
    refine lv_goto (tgt := 17) hx hb dX6_hasRoom_13 (by decide) ?_
    have hz_5 : (1 : Int32).toInt = 1 := by decide
    exact rp_zret hx hb hr hlocks hS (by first | exact Or.inl rfl | exact Or.inr rfl) (⟨show ((1 : Int32).toInt = 1 ∧ ln9.toInt + x.toInt ≤ 300) ∨ ((1 : Int32).toInt = 0 ∧ 300 < ln9.toInt + x.toInt) from (by first | assumption | omega | (subst hj1; omega)), show (1 : Int32).toInt = 0 ∨ (1 : Int32).toInt = 1 from (by first | assumption | omega | (subst hj1; omega))⟩) hQ dX6_hasRoom_17
set_option maxRecDepth 100000 in
set_option maxHeartbeats 4000000 in
theorem t_X6_writem (l : Launch) (D : va_G) (cI cR cM : ClassId) (sz : Nat) {jn : Nat} {g : Nat → Nat} {L : List Nat} {S : Sg} {f : Nat → va_E} {x y : Int32} {ln9 st9 : Int32} {ch9 cl9 : Nat → Int32} (hj : 1 ≤ jn ∧ jn ≤ 3) (hG : SG g L S) (hI : IN jn cI cR cM g L S f) (hj1 : jn = 1) (hsh : ShX cI g f ln9 st9 ch9 cl9) (hlt : ln9.toInt < 300) : Met l yX6_write wsX6_write ({ frames := 0, cells := 0, slots := 0, locals := 0 }) (P0 D cI cR cM [.ref (g 17), .int x, .int y] sz (va_pl L f)) (QG (S := Nat → va_E) (fun u => none) (fun u => va_pl L u) (fun u => IN jn cI cR cM g L S u ∧ FR S [17, 44, 45] f u ∧ (∃ (lnA : Int32) (dA dB : Nat → Int32), lnA.toInt = ln9.toInt + 1 ∧ ShX cI g u lnA st9 dA dB ∧ ScP ch9 cl9 dA dB ln9.toInt 1 (fun _ => x.toInt) (fun _ => y.toInt)) ∧ (FX S (fun _ => False) [17, 44, 45] f u)) D (va_A (va_pl L f) sz)) 0 0 (va_A (va_pl L f) sz) := by
  refine go (cc := cX6_write) (maxL := 3) (ret := none) (by decide +kernel) rfl (Nat.le_of_ble_eq_true rfl) ?_
  intro p e s m below meth c ls args Q hQ hsz hx hb hr hml hts hown hlocks hnm hP hK hD hl
  subst hsz
  have hD := hD.self (sz := s.heap.size)
  generalize hAe : va_A (va_pl L f) s.heap.size = A at hD hQ
  have hA : ∀ q, s.heap.size ≤ q → A q := fun q h => by rw [← hAe]; exact Or.inr h
  have hS : va_S A s.heap s.heap [] := va_S.rf
  have hFX : FX S (fun _ => False) [17, 44, 45] f f := FX_rf
  have hF : FR S [17, 44, 45] f f := FR_rf
  have hl : lv_has ls 3 [(0, .ref (g 17)), (1, .int x), (2, .int y)] := hl
  obtain ⟨jv0_1, jv1_1⟩ := iv_17 hI (gm_17 hG) (gs_17 hG) hsh.1
  refine lv_aload_n hx hb dX6_write_0 rfl (lv_at hl 0 rfl) ?_
  refine t_get (D := D) (L := L) (f := f) (ci := 6) (v := .int ln9) (C := RX6) (T := TX6) (N := 4) hx hb hts (by decide +kernel) hown hK.1 hP (gm_17 hG) hsh.1 rfl 2 (by decide) (hts (.fieldLink RX6 16 "JugglingHall$Sheet" "length" "I") (by decide +kernel)) (fun _ h9 => h9) rfl dX6_write_1 ?_
  refine lv_sipush (v := 300) hx hb dX6_write_4 (by decide) ?_
  refine a_icmp_ge (u := ln9.toInt) (v := 300) (tgt := 40) hx hb dX6_write_7 (by decide) (rfl) (by decide) (fun c_2 => absurd c_2 (by subst hj1; omega)) (fun c_2 => ?_)
  refine lv_aload_n hx hb dX6_write_10 rfl (lv_at hl 0 rfl) ?_
  refine t_get (D := D) (L := L) (f := f) (ci := 6) (v := .ref (g 44)) (C := RX6) (T := TX6) (N := 4) hx hb hts (by decide +kernel) hown hK.1 hP (gm_17 hG) hsh.1 rfl 0 (by decide) (hts (.fieldLink RX6 9 "JugglingHall$Sheet" "heights" "[I") (by decide +kernel)) (fun _ h9 => h9) rfl dX6_write_11 ?_
  refine lv_aload_n hx hb dX6_write_14 rfl (lv_at hl 0 rfl) ?_
  refine t_get (D := D) (L := L) (f := f) (ci := 6) (v := .int ln9) (C := RX6) (T := TX6) (N := 4) hx hb hts (by decide +kernel) hown hK.1 hP (gm_17 hG) hsh.1 rfl 2 (by decide) (hts (.fieldLink RX6 16 "JugglingHall$Sheet" "length" "I") (by decide +kernel)) (fun _ h9 => h9) rfl dX6_write_15 ?_
  refine lv_iload_n hx hb dX6_write_18 rfl (lv_at hl 1 rfl) ?_
  refine t_iast (L := L) (f := f) (h := ch9) (u := ln9.toInt) hx hb hK.1 hP hD hS (gm_44 hG) 0 hsh.2.1 rfl dX6_write_19 (rfl) (by subst hj1; omega) (fun g_3 f_3 H locs eg_3 e9_3 o_3 hP hD hS => ?_)
  have fa_3 : f_3 (g 44) = .inl (cI, 300, .inl g_3) := e9_3
  have hI := IN_set (e := .inl (cI, 300, .inl g_3)) hI (gs_44 hG) (mk_44) fa_3 o_3
  have hF := FR_set hF (gs_44 hG) (show (44 : Nat) ∈ ([17, 44, 45] : List Nat) by decide) o_3
  have hFX := FX_setT hFX (gs_44 hG) (show (44 : Nat) ∈ ([17, 44, 45] : List Nat) by decide) o_3
  have fb_4 : f_3 (g 17) = .inr (6, [.ref (g 44), .ref (g 45), .int ln9, .int st9]) := f_at o_3 (S_ne (gs_17 hG) (gs_44 hG) (show (17 : Nat) ≠ 44 by decide)) hsh.1
  have fb_5 : f_3 (g 45) = .inl (cI, 300, .inl cl9) := f_at o_3 (S_ne (gs_45 hG) (gs_44 hG) (show (45 : Nat) ≠ 44 by decide)) hsh.2.2
  refine lv_aload_n hx hb dX6_write_20 rfl (lv_at hl 0 rfl) ?_
  refine t_get (D := D) (L := L) (f := f_3) (ci := 6) (v := .ref (g 45)) (C := RX6) (T := TX6) (N := 4) hx hb hts (by decide +kernel) hown hK.1 hP (gm_17 hG) fb_4 rfl 1 (by decide) (hts (.fieldLink RX6 13 "JugglingHall$Sheet" "letters" "[I") (by decide +kernel)) (fun _ h9 => h9) rfl dX6_write_21 ?_
  refine lv_aload_n hx hb dX6_write_24 rfl (lv_at hl 0 rfl) ?_
  refine t_get (D := D) (L := L) (f := f_3) (ci := 6) (v := .int ln9) (C := RX6) (T := TX6) (N := 4) hx hb hts (by decide +kernel) hown hK.1 hP (gm_17 hG) fb_4 rfl 2 (by decide) (hts (.fieldLink RX6 16 "JugglingHall$Sheet" "length" "I") (by decide +kernel)) (fun _ h9 => h9) rfl dX6_write_25 ?_
  refine lv_iload_n hx hb dX6_write_28 rfl (lv_at hl 2 rfl) ?_
  refine t_iast (L := L) (f := f_3) (h := cl9) (u := ln9.toInt) hx hb hK.1 hP hD hS (gm_45 hG) 0 fb_5 rfl dX6_write_29 (rfl) (by subst hj1; omega) (fun g_6 f_6 H locs eg_6 e9_6 o_6 hP hD hS => ?_)
  have fa_6 : f_6 (g 45) = .inl (cI, 300, .inl g_6) := e9_6
  have hI := IN_set (e := .inl (cI, 300, .inl g_6)) hI (gs_45 hG) (mk_45) fa_6 o_6
  have hF := FR_set hF (gs_45 hG) (show (45 : Nat) ∈ ([17, 44, 45] : List Nat) by decide) o_6
  have hFX := FX_setT hFX (gs_45 hG) (show (45 : Nat) ∈ ([17, 44, 45] : List Nat) by decide) o_6
  have fb_7 : f_6 (g 17) = .inr (6, [.ref (g 44), .ref (g 45), .int ln9, .int st9]) := f_at o_6 (S_ne (gs_17 hG) (gs_45 hG) (show (17 : Nat) ≠ 45 by decide)) fb_4
  have fb_8 : f_6 (g 44) = .inl (cI, 300, .inl g_3) := f_at o_6 (S_ne (gs_44 hG) (gs_45 hG) (show (44 : Nat) ≠ 45 by decide)) fa_3
  refine lv_aload_n hx hb dX6_write_30 rfl (lv_at hl 0 rfl) ?_
  refine lv_dup hx hb dX6_write_31 rfl ?_
  refine t_get (D := D) (L := L) (f := f_6) (ci := 6) (v := .int ln9) (C := RX6) (T := TX6) (N := 4) hx hb hts (by decide +kernel) hown hK.1 hP (gm_17 hG) fb_7 rfl 2 (by decide) (hts (.fieldLink RX6 16 "JugglingHall$Sheet" "length" "I") (by decide +kernel)) (fun _ h9 => h9) rfl dX6_write_32 ?_
  refine lv_iconst (v := 1) hx hb dX6_write_35 (by decide) ?_
  refine a_iadd (u := ln9.toInt) (v := 1) hx hb dX6_write_36 (rfl) (by decide) (by subst hj1; omega) (fun z_9 e_9 => ?_)
  refine t_put (D := D) (L := L) (f := f_6) (ci := 6) (v := .int z_9) (ty := .int) (C := RX6) (T := TX6) (N := 4) hx hb hts (by decide +kernel) tyX6 tyX6_ok nmX6 hown hK.1 hP hD hS (gm_17 hG) fb_7 rfl 2 (by decide) (hts (.fieldLink RX6 16 "JugglingHall$Sheet" "length" "I") (by decide +kernel)) (fun _ h9 => h9) rfl (by decide +kernel) rfl rfl (Nat.le_of_ble_eq_true rfl) dX6_write_37 (fun f_10 H locs e9_10 o_10 hP hD hS => ?_)
  have fa_10 : f_10 (g 17) = .inr (6, [.ref (g 44), .ref (g 45), .int z_9, .int st9]) := e9_10
  have hI := IN_set (e := .inr (6, [.ref (g 44), .ref (g 45), .int z_9, .int st9])) hI (gs_17 hG) (mk_17 (by first | assumption | omega | (subst hj1; omega)) (by first | assumption | omega | (subst hj1; omega))) fa_10 o_10
  have hF := FR_set hF (gs_17 hG) (show (17 : Nat) ∈ ([17, 44, 45] : List Nat) by decide) o_10
  have hFX := FX_setT hFX (gs_17 hG) (show (17 : Nat) ∈ ([17, 44, 45] : List Nat) by decide) o_10
  have fb_11 : f_10 (g 44) = .inl (cI, 300, .inl g_3) := f_at o_10 (S_ne (gs_44 hG) (gs_17 hG) (show (44 : Nat) ≠ 17 by decide)) fb_8
  have fb_12 : f_10 (g 45) = .inl (cI, 300, .inl g_6) := f_at o_10 (S_ne (gs_45 hG) (gs_17 hG) (show (45 : Nat) ≠ 17 by decide)) fa_6
  exact g_vret f_10 hx hb hr hlocks hS rfl (⟨hI, hF, show ∃ (lnA : Int32) (dA dB : Nat → Int32), lnA.toInt = ln9.toInt + 1 ∧ ShX cI g f_10 lnA st9 dA dB ∧ ScP ch9 cl9 dA dB ln9.toInt 1 (fun _ => x.toInt) (fun _ => y.toInt) from (⟨_, _, _, by omega, ⟨fa_10, fb_11, fb_12⟩, ScP_1 (by subst hj1; omega) rfl eg_3 eg_6⟩), show FX S (fun _ => False) [17, 44, 45] f f_10 from (by first | assumption | omega | (subst hj1; omega))⟩) hP hD hQ (Nat.le_of_ble_eq_true rfl) (Nat.le_of_ble_eq_true rfl) dX6_write_40
set_option maxRecDepth 100000 in
set_option maxHeartbeats 4000000 in
theorem t_X6_writeRowm (l : Launch) (D : va_G) (cI cR cM : ClassId) (sz : Nat) {jn : Nat} {g : Nat → Nat} {L : List Nat} {S : Sg} {f : Nat → va_E} {b b_p b_n : Nat} {b_l : Int32} {b_c : Nat → Int32} {y : Int32} {ln9 st9 : Int32} {ch9 cl9 : Nat → Int32} {w : Int → Int} (hj : 1 ≤ jn ∧ jn ≤ 3) (hG : SG g L S) (hI : IN jn cI cR cM g L S f) (m_b : b ∈ L) (s_b : S b = (0, b_p, b_n)) (f_b : f b = .inr (5, [.int (nI jn), .int (nI (2 * jn)), .ref b_p, .int b_l])) (f_b_p : f b_p = .inl (cI, b_n, .inl b_c)) (hj1 : jn = 1) (hsh : ShX cI g f ln9 st9 ch9 cl9) (hRC : RC b_c w b_l.toInt) (hlt : ln9.toInt + b_l.toInt ≤ 300) (hbl : 0 ≤ b_l.toInt ∧ b_l.toInt ≤ 24) : Met l yX6_writeRow wsX6_writeRow ({ frames := 1, cells := 0, slots := 0, locals := 23 }) (P0 D cI cR cM [.ref (g 17), .ref b, .int y] sz (va_pl L f)) (QG (S := Nat → va_E) (fun u => none) (fun u => va_pl L u) (fun u => IN jn cI cR cM g L S u ∧ FR S [17, 44, 45] f u ∧ (∃ (lnA : Int32) (dA dB : Nat → Int32), lnA.toInt = ln9.toInt + b_l.toInt ∧ ShX cI g u lnA st9 dA dB ∧ ScP ch9 cl9 dA dB ln9.toInt b_l.toInt (fun i => w (2 * i)) (fun _ => y.toInt)) ∧ (FX S (fun _ => False) [17, 44, 45] f u)) D (va_A (va_pl L f) sz)) 0 0 (va_A (va_pl L f) sz) := by
  refine go (cc := cX6_writeRow) (maxL := 4) (ret := none) (by decide +kernel) rfl (Nat.le_of_ble_eq_true rfl) ?_
  intro p e s m below meth c ls args Q hQ hsz hx hb hr hml hts hown hlocks hnm hP hK hD hl
  subst hsz
  have hD := hD.self (sz := s.heap.size)
  generalize hAe : va_A (va_pl L f) s.heap.size = A at hD hQ
  have hA : ∀ q, s.heap.size ≤ q → A q := fun q h => by rw [← hAe]; exact Or.inr h
  have hS : va_S A s.heap s.heap [] := va_S.rf
  have hFX : FX S (fun _ => False) [17, 44, 45] f f := FX_rf
  have hF : FR S [17, 44, 45] f f := FR_rf
  have hl : lv_has ls 4 [(0, .ref (g 17)), (1, .ref b), (2, .int y)] := hl
  obtain ⟨v1_b, v2_b, v3_b, m_b_p, s_b_p⟩ := iv_0 hI m_b s_b f_b
  obtain ⟨w1_b, w2_b, w3_b, w4_b, w5_b⟩ := lenw hj v1_b v2_b v3_b
  have k_b := iv_1 hI m_b_p s_b_p f_b_p
  obtain ⟨jv0_1, jv1_1⟩ := iv_17 hI (gm_17 hG) (gs_17 hG) hsh.1
  refine lv_iconst (v := 0) hx hb dX6_writeRow_0 (by decide) ?_
  refine lv_istore_n (lv' := [(3, .int 0), (0, .ref (g 17)), (1, .ref b), (2, .int y)]) hx hb dX6_writeRow_1 rfl hl (by decide) rfl (fun ls hl => ?_)
  have loop2 : ∀ (ddloop2 : Nat) (be : Int32) (f_2 : Nat → va_E) (H : Heap) (locs : List Loc) (ls : Array Slot), (100 - be.toInt).toNat < ddloop2 → IN jn cI cR cM g L S f_2 → FR S [17, 44, 45] f f_2 → (0 ≤ be.toInt ∧ be.toInt ≤ b_l.toInt) → (∃ (lnA : Int32) (dA dB : Nat → Int32), lnA.toInt = ln9.toInt + be.toInt ∧ ShX cI g f_2 lnA st9 dA dB ∧ ScP ch9 cl9 dA dB ln9.toInt be.toInt (fun i => w (2 * i)) (fun _ => y.toInt)) → (FX S (fun _ => False) [17, 44, 45] f f_2) → va_P D vwCl (va_pl L f_2) H → va_D A (va_pl L f_2) → va_S A s.heap H locs → lv_has ls 4 [(0, .ref (g 17)), (1, .ref b), (2, .int y), (3, .int be)] → W p l e ({ frames := 1, cells := 0, slots := 0, locals := 23 }) s m args below meth c H locs (0) (0) Q (F0 m 2 ls []) := by
    intro ddloop2
    induction ddloop2 with
    | zero =>
      intro be f_2 H locs ls hdd
      exact absurd hdd (Nat.not_lt_zero _)
    | succ ddloop2 ih2 =>
      intro be f_2 H locs ls hdd hI hF hi hsc hFX hP hD hS hl
      have fb_3 : f_2 b = .inr (5, [.int (nI jn), .int (nI (2 * jn)), .ref b_p, .int b_l]) := FR_at hF s_b (show (0 : Nat) ∉ ([17, 44, 45] : List Nat) by decide) f_b
      have fb_4 : f_2 b_p = .inl (cI, b_n, .inl b_c) := FR_at hF s_b_p (show (1 : Nat) ∉ ([17, 44, 45] : List Nat) by decide) f_b_p
      obtain ⟨ln5, d1, d2, hl1, hl2, hl3⟩ := hsc
      obtain ⟨jv0_5, jv1_5⟩ := iv_17 hI (gm_17 hG) (gs_17 hG) hl2.1
      refine lv_iload_n hx hb dX6_writeRow_2 rfl (lv_at hl 3 rfl) ?_
      refine lv_aload_n hx hb dX6_writeRow_3 rfl (lv_at hl 1 rfl) ?_
      refine t_getN (D := D) (L := L) (f := f_2) (ci := 5) (v := .int b_l) (C := RX5) (T := TX5) (N := 4) (host := "JugglingHall") hx hb hts (by decide +kernel) hown hK.1 hP m_b fb_3 rfl 3 (by decide) (hK.nw (.fieldLinkNest RX6 20 "JugglingHall$Row" "length" "I" "JugglingHall") (by decide +kernel) rfl) (fun _ h9 => h9) rfl dX6_writeRow_4 ?_
      refine a_icmp_ge (u := be.toInt) (v := b_l.toInt) (tgt := 32) hx hb dX6_writeRow_7 (by decide) (rfl) (rfl) (fun c_6 => ?_) (fun c_6 => ?_)
      · exact g_vret f_2 hx hb hr hlocks hS rfl (⟨hI, hF, show ∃ (lnA : Int32) (dA dB : Nat → Int32), lnA.toInt = ln9.toInt + b_l.toInt ∧ ShX cI g f_2 lnA st9 dA dB ∧ ScP ch9 cl9 dA dB ln9.toInt b_l.toInt (fun i => w (2 * i)) (fun _ => y.toInt) from (⟨_, _, _, by omega, hl2, by rw [show b_l.toInt = be.toInt by omega]; exact hl3⟩), show FX S (fun _ => False) [17, 44, 45] f f_2 from (by first | assumption | omega | (subst hj1; omega))⟩) hP hD hQ (Nat.le_of_ble_eq_true rfl) (Nat.le_of_ble_eq_true rfl) dX6_writeRow_32
      · refine lv_aload_n hx hb dX6_writeRow_10 rfl (lv_at hl 0 rfl) ?_
        refine lv_aload_n hx hb dX6_writeRow_11 rfl (lv_at hl 1 rfl) ?_
        refine lv_aload_n hx hb dX6_writeRow_12 rfl (lv_at hl 1 rfl) ?_
        refine lv_iload_n hx hb dX6_writeRow_13 rfl (lv_at hl 3 rfl) ?_
        refine lv_iconst (v := 0) hx hb dX6_writeRow_14 (by decide) ?_
        refine lv_iconst (v := 0) hx hb dX6_writeRow_15 (by decide) ?_
        have hz_7 : (0 : Int32).toInt = 0 := by decide
        have hz_8 : (0 : Int32).toInt = 0 := by decide
        refine roP (va_runV (As := [.int be, .int 0, .int 0]) (rest := [.ref b, .ref (g 17)]) ⟨hx, hb, hml, hown, hts⟩ (t_X5_cellAtm l D cI cR cM _   hj hG hI m_b s_b fb_3 fb_4 (by first | assumption | omega | (subst hj1; omega)) (by rw [show (0 : Int32).toInt = 0 from rfl]; omega)) (cwV 3 hts gX6_writeRow_X5_cellAt rfl rfl rfl (by decide +kernel) ⟨Nat.le_of_ble_eq_true rfl, Nat.le_of_ble_eq_true rfl⟩) (pre_T hK hP hD m_b fb_3 rfl) rfl rfl hl.1 rfl (lv_room (Nat.le_of_ble_eq_true rfl)) dX6_writeRow_16 ⟨Nat.le_of_ble_eq_true rfl, Nat.le_of_ble_eq_true rfl⟩) hS hA hP (fun r_9 H locs hw hP hS => ?_)
        have h_9 : (r_9.toInt = 2 * be.toInt) := hw
        refine roP (va_runV (As := [.int r_9]) (rest := [.ref (g 17)]) ⟨hx, hb, hml, hown, hts⟩ (t_X5_heightm l D cI cR cM _ (w := w)  hj hG hI m_b s_b fb_3 fb_4 (by first | assumption | omega | (subst hj1; omega)) (by first | assumption | omega | (subst hj1; omega)) (hRC)) (cwV 1 hts gX6_writeRow_X5_height rfl rfl rfl (by decide +kernel) ⟨Nat.le_of_ble_eq_true rfl, Nat.le_of_ble_eq_true rfl⟩) (pre_T hK hP hD m_b fb_3 rfl) rfl rfl hl.1 rfl (lv_room (Nat.le_of_ble_eq_true rfl)) dX6_writeRow_19 ⟨Nat.le_of_ble_eq_true rfl, Nat.le_of_ble_eq_true rfl⟩) hS hA hP (fun r_10 H locs hw hP hS => ?_)
        obtain ⟨h_10, hb_10⟩ : (r_10.toInt = w r_9.toInt) ∧ (0 ≤ r_10.toInt ∧ r_10.toInt ≤ 9) := hw
        refine lv_iload_n hx hb dX6_writeRow_22 rfl (lv_at hl 2 rfl) ?_
        refine call_p (va_runV (As := [.int r_10, .int y]) (rest := []) ⟨hx, hb, hml, hown, hts⟩ (t_X6_writem l D cI cR cM _ (ln9 := ln5) (st9 := st9) (ch9 := d1) (cl9 := d2)  hj hG hI  (by first | assumption | omega | (subst hj1; omega)) (hl2) (by first | assumption | omega | (subst hj1; omega))) (cwV 2 hts gX6_writeRow_X6_write rfl rfl rfl (by decide +kernel) ⟨Nat.le_of_ble_eq_true rfl, Nat.le_of_ble_eq_true rfl⟩) (pre_T hK hP hD (gm_17 hG) hl2.1 rfl) rfl rfl hl.1 rfl (lv_room (Nat.le_of_ble_eq_true rfl)) dX6_writeRow_23 ⟨Nat.le_of_ble_eq_true rfl, Nat.le_of_ble_eq_true rfl⟩) hD hS hA (fun u_11 H locs hw hP hD hS => ?_)
        obtain ⟨f_11, e0_11⟩ : ∃ x, x = u_11 := ⟨_, rfl⟩
        subst e0_11
        obtain ⟨hI, hF_11, hp_11, hfx_11⟩ : IN jn cI cR cM g L S f_11 ∧ FR S [17, 44, 45] f_2 f_11 ∧ (∃ (lnA : Int32) (dA dB : Nat → Int32), lnA.toInt = ln5.toInt + 1 ∧ ShX cI g f_11 lnA st9 dA dB ∧ ScP d1 d2 dA dB ln5.toInt 1 (fun _ => r_10.toInt) (fun _ => y.toInt)) ∧ (FX S (fun _ => False) [17, 44, 45] f_2 f_11) := hw
        have hP : va_P D vwCl (va_pl L f_11) H := hP
        have hD : va_D A (va_pl L f_11) := hD
        have hF := FR_tr hF hF_11 (by decide)
        have hFX := FX_tr hFX hfx_11 (fun _ h9 => h9.elim) (by decide)
        have fb_12 : f_11 b = .inr (5, [.int (nI jn), .int (nI (2 * jn)), .ref b_p, .int b_l]) := FR_at hF_11 s_b (show (0 : Nat) ∉ ([17, 44, 45] : List Nat) by decide) fb_3
        have fb_13 : f_11 b_p = .inl (cI, b_n, .inl b_c) := FR_at hF_11 s_b_p (show (1 : Nat) ∉ ([17, 44, 45] : List Nat) by decide) fb_4
        obtain ⟨le_11, da_11, db_11, pa_11, pb_11, pc_11⟩ := hp_11
        obtain ⟨jv0_14, jv1_14⟩ := iv_17 hI (gm_17 hG) (gs_17 hG) pb_11.1
        obtain ⟨z_15, q_15, e_15⟩ := i_inc (a := be.toInt) (1) (rfl) (by decide) (by subst hj1; omega) (by subst hj1; omega)
        refine lv_iinc (v := z_15) (lv' := [(3, .int z_15), (0, .ref (g 17)), (1, .ref b), (2, .int y)]) hx hb dX6_writeRow_26 hl (k := 3) rfl q_15 (by decide) rfl (fun ls hl => ?_)
        refine lv_goto (tgt := 2) hx hb dX6_writeRow_29 (by decide) ?_
        exact ih2 z_15 f_11 _ _ _ (by subst hj1; omega) hI hF (by first | assumption | omega | (subst hj1; omega)) (⟨_, _, _, by omega, pb_11, ScP_tr hl3 pc_11 (by subst hj1; omega) (by subst hj1; omega) (by subst hj1; omega) (by subst hj1; omega) (fun i9 h8 h9 => ⟨by show r_10.toInt = w (2 * (be.toInt + i9)); rw [h_10, h_9]; congr 1; omega, rfl⟩)⟩) (by first | assumption | omega | (subst hj1; omega)) hP hD hS (lv_sub hl [1, 2, 3, 0] rfl)
  have hz_16 : (0 : Int32).toInt = 0 := by decide
  exact loop2 ((100 - (0 : Int32).toInt).toNat + 1) (0 : Int32) f _ _ _ (by subst hj1; omega) hI hF (by first | assumption | omega | (subst hj1; omega)) (⟨_, _, _, by omega, hsh, ScP_0 (by decide)⟩) (by first | assumption | omega | (subst hj1; omega)) hP hD hS (lv_sub hl [1, 2, 3, 0] rfl)
set_option maxRecDepth 100000 in
set_option maxHeartbeats 4000000 in
theorem t_X10_clearm (l : Launch) (D : va_G) (cI cR cM : ClassId) (sz : Nat) {jn : Nat} {g : Nat → Nat} {L : List Nat} {S : Sg} {f : Nat → va_E} {ln9 st9 : Int32} {ch9 cl9 : Nat → Int32} (hj : 1 ≤ jn ∧ jn ≤ 3) (hG : SG g L S) (hI : IN jn cI cR cM g L S f) (hsh : ShX cI g f ln9 st9 ch9 cl9) : Met l yX10_clear wsX10_clear ({ frames := 0, cells := 0, slots := 0, locals := 0 }) (P0 D cI cR cM [.ref (g 10)] sz (va_pl L f)) (QG (S := Int32 × (Nat → va_E)) (fun u => some (.int u.1)) (fun u => va_pl L u.2) (fun u => IN jn cI cR cM g L S u.2 ∧ FR S [17] f u.2 ∧ (u.1 = ln9 ∧ ShX cI g u.2 0 st9 ch9 cl9)) D (va_A (va_pl L f) sz)) 0 0 (va_A (va_pl L f) sz) := by
  refine go (cc := cX10_clear) (maxL := 2) (ret := (some .int)) (by decide +kernel) rfl (Nat.le_of_ble_eq_true rfl) ?_
  intro p e s m below meth c ls args Q hQ hsz hx hb hr hml hts hown hlocks hnm hP hK hD hl
  subst hsz
  have hD := hD.self (sz := s.heap.size)
  generalize hAe : va_A (va_pl L f) s.heap.size = A at hD hQ
  have hA : ∀ q, s.heap.size ≤ q → A q := fun q h => by rw [← hAe]; exact Or.inr h
  have hS : va_S A s.heap s.heap [] := va_S.rf
  have hF : FR S [17] f f := FR_rf
  have hl : lv_has ls 2 [(0, .ref (g 10))] := hl
  obtain ⟨jv0_1, jv1_1⟩ := iv_17 hI (gm_17 hG) (gs_17 hG) hsh.1
  refine lv_aload_n hx hb dX10_clear_0 rfl (lv_at hl 0 rfl) ?_
  have fg_2 := op_10 hI (gm_10 hG) (gs_10 hG)
  refine t_get (D := D) (L := L) (f := f) (ci := 10) (v := .ref (g 17)) (C := RX10) (T := TX10) (N := 8) hx hb hts (by decide +kernel) hown hK.1 hP (gm_10 hG) fg_2 rfl 6 (by decide) (hts (.fieldLink RX10 67 "JugglingHall" "sheet" "LJugglingHall$Sheet;") (by decide +kernel)) (fun _ h9 => h9) rfl dX10_clear_1 ?_
  refine t_getN (D := D) (L := L) (f := f) (ci := 6) (v := .int ln9) (C := RX6) (T := TX6) (N := 4) (host := "JugglingHall") hx hb hts (by decide +kernel) hown hK.1 hP (gm_17 hG) hsh.1 rfl 2 (by decide) (hK.nw (.fieldLinkNest RX10 200 "JugglingHall$Sheet" "length" "I" "JugglingHall") (by decide +kernel) rfl) (fun _ h9 => h9) rfl dX10_clear_4 ?_
  refine lv_istore_n (lv' := [(1, .int ln9), (0, .ref (g 10))]) hx hb dX10_clear_7 rfl hl (by decide) rfl (fun ls hl => ?_)
  refine lv_aload_n hx hb dX10_clear_8 rfl (lv_at hl 1 rfl) ?_
  refine t_get (D := D) (L := L) (f := f) (ci := 10) (v := .ref (g 17)) (C := RX10) (T := TX10) (N := 8) hx hb hts (by decide +kernel) hown hK.1 hP (gm_10 hG) fg_2 rfl 6 (by decide) (hts (.fieldLink RX10 67 "JugglingHall" "sheet" "LJugglingHall$Sheet;") (by decide +kernel)) (fun _ h9 => h9) rfl dX10_clear_9 ?_
  refine lv_iconst (v := 0) hx hb dX10_clear_12 (by decide) ?_
  have hz_4 : (0 : Int32).toInt = 0 := by decide
  refine t_putN (D := D) (L := L) (f := f) (ci := 6) (v := .int 0) (ty := .int) (C := RX6) (T := TX6) (N := 4) (host := "JugglingHall") hx hb hts (by decide +kernel) tyX6 tyX6_ok nmX6 hown hK.1 hP hD hS (gm_17 hG) hsh.1 rfl 2 (by decide) (hK.nw (.fieldLinkNest RX10 200 "JugglingHall$Sheet" "length" "I" "JugglingHall") (by decide +kernel) rfl) (fun _ h9 => h9) rfl (by decide +kernel) rfl rfl (Nat.le_of_ble_eq_true rfl) dX10_clear_13 (fun f_3 H locs e9_3 o_3 hP hD hS => ?_)
  have fa_3 : f_3 (g 17) = .inr (6, [.ref (g 44), .ref (g 45), .int 0, .int st9]) := e9_3
  have hI := IN_set (e := .inr (6, [.ref (g 44), .ref (g 45), .int 0, .int st9])) hI (gs_17 hG) (mk_17 (by first | assumption | omega) (by first | assumption | omega)) fa_3 o_3
  have hF := FR_set hF (gs_17 hG) (show (17 : Nat) ∈ ([17] : List Nat) by decide) o_3
  have fb_5 : f_3 (g 44) = .inl (cI, 300, .inl ch9) := f_at o_3 (S_ne (gs_44 hG) (gs_17 hG) (show (44 : Nat) ≠ 17 by decide)) hsh.2.1
  have fb_6 : f_3 (g 45) = .inl (cI, 300, .inl cl9) := f_at o_3 (S_ne (gs_45 hG) (gs_17 hG) (show (45 : Nat) ≠ 17 by decide)) hsh.2.2
  have fb_7 : f_3 (g 10) = .inr (10, [.int (nI jn), .ref (g 11), .ref (g 12), .ref (g 13), .ref (g 15), .ref (g 16), .ref (g 17), .ref (g 18)]) := f_at o_3 (S_ne (gs_10 hG) (gs_17 hG) (show (10 : Nat) ≠ 17 by decide)) fg_2
  refine lv_iload_n hx hb dX10_clear_16 rfl (lv_at hl 0 rfl) ?_
  exact g_iret (ln9, f_3) hx hb hr hlocks hS rfl (⟨hI, hF, show ln9 = ln9 ∧ ShX cI g f_3 0 st9 ch9 cl9 from (⟨rfl, ⟨fa_3, fb_5, fb_6⟩⟩)⟩) hP hD hQ (Nat.le_of_ble_eq_true rfl) (Nat.le_of_ble_eq_true rfl) dX10_clear_17
set_option maxRecDepth 100000 in
set_option maxHeartbeats 4000000 in
theorem t_X10_scorem (l : Launch) (D : va_G) (cI cR cM : ClassId) (sz : Nat) {jn : Nat} {g : Nat → Nat} {L : List Nat} {S : Sg} {f : Nat → va_E} {x y : Int32} {ln9 st9 : Int32} {ch9 cl9 : Nat → Int32} (hj : 1 ≤ jn ∧ jn ≤ 3) (hG : SG g L S) (hI : IN jn cI cR cM g L S f) (hsh : ShX cI g f ln9 st9 ch9 cl9) : Met l yX10_score wsX10_score ({ frames := 0, cells := 0, slots := 0, locals := 0 }) (P0 D cI cR cM [.ref (g 10), .int x, .int y] sz (va_pl L f)) (QP (fun r => (ScR ln9.toInt ch9 cl9 x.toInt y.toInt r)) sz) 0 0 (va_A [] sz) := by
  refine go (cc := cX10_score) (maxL := 3) (ret := (some .int)) (by decide +kernel) rfl (Nat.le_of_ble_eq_true rfl) ?_
  intro p e s m below meth c ls args Q hQ hsz hx hb hr hml hts hown hlocks hnm hP hK hD hl
  subst hsz
  have hS : va_S (va_A [] s.heap.size) s.heap s.heap [] := va_S.rf
  have hA : ∀ q, s.heap.size ≤ q → va_A [] s.heap.size q := fun q h => Or.inr h
  have hl : lv_has ls 3 [(0, .ref (g 10)), (1, .int x), (2, .int y)] := hl
  obtain ⟨jv0_1, jv1_1⟩ := iv_17 hI (gm_17 hG) (gs_17 hG) hsh.1
  refine lv_iload_n hx hb dX10_score_0 rfl (lv_at hl 1 rfl) ?_
  refine a_if_lt (u := x.toInt) (tgt := 15) hx hb dX10_score_1 (by decide) (rfl) (fun c_2 => ?_) (fun c_2 => ?_)
  · refine lv_iconst (v := (-1)) hx hb dX10_score_15 (by decide) ?_
    have hz_3 : (-1 : Int32).toInt = (-1) := by decide
    exact rp_iret hx hb hr hlocks hS (show ScR ln9.toInt ch9 cl9 x.toInt y.toInt (-1 : Int32) from (Or.inl ⟨by omega, rfl⟩)) hQ dX10_score_16
  · refine lv_iload_n hx hb dX10_score_4 rfl (lv_at hl 1 rfl) ?_
    refine lv_aload_n hx hb dX10_score_5 rfl (lv_at hl 0 rfl) ?_
    have fg_4 := op_10 hI (gm_10 hG) (gs_10 hG)
    refine t_get (D := D) (L := L) (f := f) (ci := 10) (v := .ref (g 17)) (C := RX10) (T := TX10) (N := 8) hx hb hts (by decide +kernel) hown hK.1 hP (gm_10 hG) fg_4 rfl 6 (by decide) (hts (.fieldLink RX10 67 "JugglingHall" "sheet" "LJugglingHall$Sheet;") (by decide +kernel)) (fun _ h9 => h9) rfl dX10_score_6 ?_
    refine t_getN (D := D) (L := L) (f := f) (ci := 6) (v := .int ln9) (C := RX6) (T := TX6) (N := 4) (host := "JugglingHall") hx hb hts (by decide +kernel) hown hK.1 hP (gm_17 hG) hsh.1 rfl 2 (by decide) (hK.nw (.fieldLinkNest RX10 200 "JugglingHall$Sheet" "length" "I" "JugglingHall") (by decide +kernel) rfl) (fun _ h9 => h9) rfl dX10_score_9 ?_
    refine a_icmp_lt (u := x.toInt) (v := ln9.toInt) (tgt := 17) hx hb dX10_score_12 (by decide) (rfl) (rfl) (fun c_5 => ?_) (fun c_5 => ?_)
    · refine lv_iload_n hx hb dX10_score_17 rfl (lv_at hl 2 rfl) ?_
      refine a_if_ne (u := y.toInt) (tgt := 31) hx hb dX10_score_18 (by decide) (rfl) (fun c_6 => ?_) (fun c_6 => ?_)
      · refine lv_iload_n hx hb dX10_score_31 rfl (lv_at hl 2 rfl) ?_
        refine lv_iconst (v := 1) hx hb dX10_score_32 (by decide) ?_
        refine a_icmp_ne (u := y.toInt) (v := 1) (tgt := 48) hx hb dX10_score_33 (by decide) (rfl) (by decide) (fun c_7 => ?_) (fun c_7 => ?_)
        · refine lv_iconst (v := (-1)) hx hb dX10_score_48 (by decide) ?_
          have hz_8 : (-1 : Int32).toInt = (-1) := by decide
          exact rp_iret hx hb hr hlocks hS (show ScR ln9.toInt ch9 cl9 x.toInt y.toInt (-1 : Int32) from (Or.inr ⟨by omega, Or.inr (Or.inr ⟨by omega, by omega, rfl⟩)⟩)) hQ dX10_score_49
        · refine lv_aload_n hx hb dX10_score_36 rfl (lv_at hl 0 rfl) ?_
          refine t_get (D := D) (L := L) (f := f) (ci := 10) (v := .ref (g 17)) (C := RX10) (T := TX10) (N := 8) hx hb hts (by decide +kernel) hown hK.1 hP (gm_10 hG) fg_4 rfl 6 (by decide) (hts (.fieldLink RX10 67 "JugglingHall" "sheet" "LJugglingHall$Sheet;") (by decide +kernel)) (fun _ h9 => h9) rfl dX10_score_37 ?_
          refine t_getN (D := D) (L := L) (f := f) (ci := 6) (v := .ref (g 45)) (C := RX6) (T := TX6) (N := 4) (host := "JugglingHall") hx hb hts (by decide +kernel) hown hK.1 hP (gm_17 hG) hsh.1 rfl 1 (by decide) (hK.nw (.fieldLinkNest RX10 214 "JugglingHall$Sheet" "letters" "[I" "JugglingHall") (by decide +kernel) rfl) (fun _ h9 => h9) rfl dX10_score_40 ?_
          refine lv_iload_n hx hb dX10_score_43 rfl (lv_at hl 1 rfl) ?_
          refine t_iald (L := L) (f := f) (y := cl9) (u := x.toInt) hx hb hK.1 hP (gm_45 hG) 0 hsh.2.2 rfl dX10_score_44 (rfl) (by omega) (fun z_9 q_9 e_9 => ?_)
          refine lv_goto (tgt := 49) hx hb dX10_score_45 (by decide) ?_
          exact rp_iret hx hb hr hlocks hS (show ScR ln9.toInt ch9 cl9 x.toInt y.toInt z_9 from (Or.inr ⟨by omega, Or.inr (Or.inl ⟨by omega, q_9⟩)⟩)) hQ dX10_score_49
      · refine lv_aload_n hx hb dX10_score_21 rfl (lv_at hl 0 rfl) ?_
        refine t_get (D := D) (L := L) (f := f) (ci := 10) (v := .ref (g 17)) (C := RX10) (T := TX10) (N := 8) hx hb hts (by decide +kernel) hown hK.1 hP (gm_10 hG) fg_4 rfl 6 (by decide) (hts (.fieldLink RX10 67 "JugglingHall" "sheet" "LJugglingHall$Sheet;") (by decide +kernel)) (fun _ h9 => h9) rfl dX10_score_22 ?_
        refine t_getN (D := D) (L := L) (f := f) (ci := 6) (v := .ref (g 44)) (C := RX6) (T := TX6) (N := 4) (host := "JugglingHall") hx hb hts (by decide +kernel) hown hK.1 hP (gm_17 hG) hsh.1 rfl 0 (by decide) (hK.nw (.fieldLinkNest RX10 213 "JugglingHall$Sheet" "heights" "[I" "JugglingHall") (by decide +kernel) rfl) (fun _ h9 => h9) rfl dX10_score_25 ?_
        refine lv_iload_n hx hb dX10_score_28 rfl (lv_at hl 1 rfl) ?_
        refine t_iald (L := L) (f := f) (y := ch9) (u := x.toInt) hx hb hK.1 hP (gm_44 hG) 0 hsh.2.1 rfl dX10_score_29 (rfl) (by omega) (fun z_10 q_10 e_10 => ?_)
        exact rp_iret hx hb hr hlocks hS (show ScR ln9.toInt ch9 cl9 x.toInt y.toInt z_10 from (Or.inr ⟨by omega, Or.inl ⟨by omega, q_10⟩⟩)) hQ dX10_score_30
    · refine lv_iconst (v := (-1)) hx hb dX10_score_15 (by decide) ?_
      have hz_11 : (-1 : Int32).toInt = (-1) := by decide
      exact rp_iret hx hb hr hlocks hS (show ScR ln9.toInt ch9 cl9 x.toInt y.toInt (-1 : Int32) from (Or.inl ⟨by omega, rfl⟩)) hQ dX10_score_16
theorem mulJ {a b m : Int} (ha : 0 ≤ a) (hab : a < b) (hm : 0 < m) : 0 ≤ a * m ∧ a * m + m ≤ b * m := by
  have h1 := Int.mul_nonneg ha (Int.le_of_lt hm)
  have h2 : (a + 1) * m ≤ b * m := Int.mul_le_mul_of_nonneg_right (by omega) (Int.le_of_lt hm)
  rw [Int.add_mul, Int.one_mul] at h2
  exact ⟨h1, h2⟩
set_option maxRecDepth 100000 in
set_option maxHeartbeats 4000000 in
theorem t_X10_addm (l : Launch) (D : va_G) (cI cR cM : ClassId) (sz : Nat) {jn : Nat} {g : Nat → Nat} {L : List Nat} {S : Sg} {f : Nat → va_E} {x y : Int32} {lv gr : Nat → Nat} {Ev : Int → Env1} {T9 lk9 : Int} {cb : Nat → Int32} {n9 : Int} {ln9 st9 : Int32} {ch9 cl9 : Nat → Int32} (hj : 1 ≤ jn ∧ jn ≤ 3) (hG : SG g L S) (hI : IN jn cI cR cM g L S f) (hj1 : jn = 1) (hcl : CLS cI cR jn g lv gr L S f T9 lk9 Ev cb n9) (hEOa : ∀ t9 : Int, 0 ≤ t9 → t9 ≤ T9 → EOk (Ev t9)) (hsh : ShX cI g f ln9 st9 ch9 cl9) (hst : 0 < ln9.toInt → ∃ a : Nat, a < 512 ∧ st9 = nI a) : Met l yX10_add wsX10_add ({ frames := 5, cells := 0, slots := 0, locals := 108 }) (P0 D cI cR cM [.ref (g 10), .int x, .int y] sz (va_pl L f)) (QG (S := Int32 × (Nat → va_E)) (fun u => some (.int u.1)) (fun u => va_pl L u.2) (fun u => IN jn cI cR cM g L S u.2 ∧ FR S [16, 17, 35, 40, 41, 42, 43, 44, 45] f u.2 ∧ (∃ (ln1 st1 : Int32) (c1 c2 : Nat → Int32), ShX cI g u.2 ln1 st1 c1 c2 ∧ AddS (Ev lk9 x.toInt) x.toInt y.toInt ln9.toInt st9 ch9 cl9 u.1.toInt ln1.toInt st1 c1 c2) ∧ (CLS cI cR jn g lv gr L S u.2 T9 lk9 Ev cb n9) ∧ (FX S (fun _ => False) [16, 17, 35, 40, 41, 42, 43, 44, 45] f u.2)) D (va_A (va_pl L f) sz)) 0 0 (va_A (va_pl L f) sz) := by
  refine go (cc := cX10_add) (maxL := 7) (ret := (some .int)) (by decide +kernel) rfl (Nat.le_of_ble_eq_true rfl) ?_
  intro p e s m below meth c ls args Q hQ hsz hx hb hr hml hts hown hlocks hnm hP hK hD hl
  subst hsz
  have hD := hD.self (sz := s.heap.size)
  generalize hAe : va_A (va_pl L f) s.heap.size = A at hD hQ
  have hA : ∀ q, s.heap.size ≤ q → A q := fun q h => by rw [← hAe]; exact Or.inr h
  have hS : va_S A s.heap s.heap [] := va_S.rf
  have hFX : FX S (fun _ => False) [16, 17, 35, 40, 41, 42, 43, 44, 45] f f := FX_rf
  have hF : FR S [16, 17, 35, 40, 41, 42, 43, 44, 45] f f := FR_rf
  have hl : lv_has ls 7 [(0, .ref (g 10)), (1, .int x), (2, .int y)] := hl
  obtain ⟨cb0, tm0, lk0, q20, q12, qT, qlk, qP⟩ := hcl.1
  obtain ⟨iw0, iw1, iw2⟩ := iv_12 hI (gm_12 hG) (gs_12 hG) q12
  have hlk : 0 ≤ lk9 ∧ lk9 ≤ T9 := by omega
  obtain ⟨jv0_1, jv1_1⟩ := iv_17 hI (gm_17 hG) (gs_17 hG) hsh.1
  refine lv_aload_n hx hb dX10_add_0 rfl (lv_at hl 0 rfl) ?_
  have fg_2 := op_10 hI (gm_10 hG) (gs_10 hG)
  refine t_get (D := D) (L := L) (f := f) (ci := 10) (v := .ref (g 12)) (C := RX10) (T := TX10) (N := 8) hx hb hts (by decide +kernel) hown hK.1 hP (gm_10 hG) fg_2 rfl 2 (by decide) (hts (.fieldLink RX10 32 "JugglingHall" "book" "LJugglingHall$Book;") (by decide +kernel)) (fun _ h9 => h9) rfl dX10_add_1 ?_
  refine lv_iload_n hx hb dX10_add_4 rfl (lv_at hl 1 rfl) ?_
  obtain ⟨tm_3, lk_3, fg_3, iv0_3, iv1_3, iv2_3⟩ := op_12 hI (gm_12 hG) (gs_12 hG)
  refine roR (va_runV (As := [.int x]) (rest := []) ⟨hx, hb, hml, hown, hts⟩ (t_X0_rowSeenm l D cI cR cM _   hj hG hI  (by first | assumption | omega | (subst hj1; omega))) (cwV 1 hts gX10_add_X0_rowSeen rfl rfl rfl (by decide +kernel) ⟨Nat.le_of_ble_eq_true rfl, Nat.le_of_ble_eq_true rfl⟩) (pre_T hK hP hD (gm_12 hG) fg_3 rfl) rfl rfl hl.1 rfl (lv_room (Nat.le_of_ble_eq_true rfl)) dX10_add_5 ⟨Nat.le_of_ble_eq_true rfl, Nat.le_of_ble_eq_true rfl⟩) hS hA hP (fun w_4 H locs hw hP hS => ?_)
  obtain ⟨ho_4, he_4⟩ : (∀ z, w_4 = some z → ∃ p n, isRow L S z p n) ∧ ((¬ (0 ≤ x.toInt ∧ x.toInt < 8) ∧ w_4 = none) ∨ ((0 ≤ x.toInt ∧ x.toInt < 8) ∧ ∀ (c9 : Nat → Option Nat) (tm9 lk9 : Int32), f (g 20) = refs cR 488 c9 → f (g 12) = .inr (0, [.ref (g 20), .ref (g 21), .int tm9, .int lk9]) → w_4 = c9 (8 * lk9.toInt + x.toInt).toNat)) := hw
  rcases x_opt w_4 with e_5 | ⟨r_5, e_5⟩
  · subst e_5
    refine W.eq (g2 := F0 m 8 ls [.null]) rfl ?_
    have hl : lv_has ls 7 [(0, .ref (g 10)), (1, .int x), (2, .int y)] := hl
    refine lv_astore_nN (lv' := [(3, .null), (0, .ref (g 10)), (1, .int x), (2, .int y)]) hx hb dX10_add_8 rfl hl (by decide) rfl (fun ls hl => ?_)
    have hz9 : ¬ scK (Ev lk9 x.toInt) x.toInt y.toInt := fun q8 => by
      rcases he_4 with ⟨h8, -⟩ | ⟨h8, h9⟩
      · exact h8 q8.1
      · rcases BkR_at (w := none) hcl.1 hlk h8.1 h8.2 h9 with h7 | ⟨r9, h7, -⟩
        · have := q8.2.1; omega
        · cases h7
    refine lv_aload_n hx hb dX10_add_9 rfl (lv_at hl 1 rfl) ?_
    refine lv_aload_nN hx hb dX10_add_10 rfl (lv_at hl 0 rfl) ?_
    refine roP (va_runV (As := [.null]) (rest := []) ⟨hx, hb, hml, hown, hts⟩ (t_X10_isPlainAndGood_null l D cI cR cM _   hj hG hI  ) (cwV 1 hts gX10_add_X10_isPlainAndGood rfl rfl rfl (by decide +kernel) ⟨Nat.le_of_ble_eq_true rfl, Nat.le_of_ble_eq_true rfl⟩) (pre_T hK hP hD (gm_10 hG) fg_2 rfl) rfl rfl hl.1 rfl (lv_room (Nat.le_of_ble_eq_true rfl)) dX10_add_11 ⟨Nat.le_of_ble_eq_true rfl, Nat.le_of_ble_eq_true rfl⟩) hS hA hP (fun r_6 H locs hw hP hS => ?_)
    obtain ⟨h0_6, h01_6⟩ : (r_6.toInt = 0) ∧ (r_6.toInt = 0 ∨ r_6.toInt = 1) := hw
    refine a_if_eq (u := r_6.toInt) (tgt := 28) hx hb dX10_add_14 (by decide) (rfl) (fun c_7 => ?_) (fun c_7 => absurd c_7 (by subst hj1; omega))
    refine lv_iconst (v := (-1)) hx hb dX10_add_28 (by decide) ?_
    have hz_8 : (-1 : Int32).toInt = (-1) := by decide
    exact g_iret ((-1 : Int32), f) hx hb hr hlocks hS rfl (⟨hI, hF, show ∃ (ln1 st1 : Int32) (c1 c2 : Nat → Int32), ShX cI g f ln1 st1 c1 c2 ∧ AddS (Ev lk9 x.toInt) x.toInt y.toInt ln9.toInt st9 ch9 cl9 (-1 : Int32).toInt ln1.toInt st1 c1 c2 from (⟨ln9, st9, ch9, cl9, ⟨hsh.1, hsh.2.1, hsh.2.2⟩, Or.inr ⟨Or.inl hz9, rfl, rfl, rfl, rfl, rfl⟩⟩), show CLS cI cR jn g lv gr L S f T9 lk9 Ev cb n9 from (hcl), show FX S (fun _ => False) [16, 17, 35, 40, 41, 42, 43, 44, 45] f f from (by first | assumption | omega | (subst hj1; omega))⟩) hP hD hQ (Nat.le_of_ble_eq_true rfl) (Nat.le_of_ble_eq_true rfl) dX10_add_29
  · subst e_5
    refine W.eq (g2 := F0 m 8 ls [.ref r_5]) rfl ?_
    have hl : lv_has ls 7 [(0, .ref (g 10)), (1, .int x), (2, .int y)] := hl
    obtain ⟨p_9, n_9, m_9, s_9⟩ := ho_4 _ rfl
    refine lv_astore_n (lv' := [(3, .ref r_5), (0, .ref (g 10)), (1, .int x), (2, .int y)]) hx hb dX10_add_8 rfl hl (by decide) rfl (fun ls hl => ?_)
    obtain ⟨len_10, fg_10, v1_10, v2_10, v3_10, mp_10, sp_10⟩ := op_0 hI m_9 s_9
    obtain ⟨w1_10, w2_10, w3_10, w4_10, w5_10⟩ := lenw hj v1_10 v2_10 v3_10
    obtain ⟨c_11, fg_11, iv0_11⟩ := op_1 hI mp_10 sp_10
    have hx8 : 0 ≤ x.toInt ∧ x.toInt < 8 := by
      rcases he_4 with ⟨-, h8⟩ | ⟨h8, -⟩
      · cases h8
      · exact h8
    obtain ⟨r9, hr9, hn0, hr8, -⟩ := (BkR_at (w := some r_5) hcl.1 hlk hx8.1 hx8.2 (he_4.elim (fun h8 => absurd hx8 h8.1) (fun h8 => h8.2))).resolve_left (fun q9 => by cases q9.1)
    cases hr9
    obtain ⟨hn1, hn2⟩ := RWf_at hr8 s_9 fg_10 fg_11
    have hn3 := (hEOa lk9 (by subst hj1; omega) (by subst hj1; omega) x.toInt hx8.1 hx8.2).2.1
    refine lv_aload_n hx hb dX10_add_9 rfl (lv_at hl 1 rfl) ?_
    refine lv_aload_n hx hb dX10_add_10 rfl (lv_at hl 0 rfl) ?_
    refine call_p (va_runV (As := [.ref r_5]) (rest := []) ⟨hx, hb, hml, hown, hts⟩ (t_X10_isPlainAndGoodm l D cI cR cM _ (w := (Ev lk9 x.toInt).2)  hj hG hI m_9 s_9 fg_10 fg_11 (by first | assumption | omega | (subst hj1; omega)) (by rw [hn1]; exact hn2) (by subst hj1; omega)) (cwV 1 hts gX10_add_X10_isPlainAndGood rfl rfl rfl (by decide +kernel) ⟨Nat.le_of_ble_eq_true rfl, Nat.le_of_ble_eq_true rfl⟩) (pre_T hK hP hD (gm_10 hG) fg_2 rfl) rfl rfl hl.1 rfl (lv_room (Nat.le_of_ble_eq_true rfl)) dX10_add_11 ⟨Nat.le_of_ble_eq_true rfl, Nat.le_of_ble_eq_true rfl⟩) hD hS hA (fun u_12 H locs hw hP hD hS => ?_)
    obtain ⟨r_12, f_12⟩ := u_12
    obtain ⟨hI, hF_12, hp_12, hfx_12, h01_12⟩ : IN jn cI cR cM g L S f_12 ∧ FR S [35] f f_12 ∧ (Hd ((r_12.toInt = 1 ∧ plW (Ev lk9 x.toInt).2 0 len_10.toInt ∧ GdW (Ev lk9 x.toInt).2 len_10.toInt) ∨ (r_12.toInt = 0 ∧ ¬ (plW (Ev lk9 x.toInt).2 0 len_10.toInt ∧ GdW (Ev lk9 x.toInt).2 len_10.toInt)))) ∧ (FX S (fun _ => False) [35] f f_12) ∧ (r_12.toInt = 0 ∨ r_12.toInt = 1) := hw
    have hP : va_P D vwCl (va_pl L f_12) H := hP
    have hD : va_D A (va_pl L f_12) := hD
    have hF := FR_tr hF hF_12 (by decide)
    have hFX := FX_tr hFX hfx_12 (fun _ h9 => h9.elim) (by decide)
    have fb_13 : f_12 (g 17) = .inr (6, [.ref (g 44), .ref (g 45), .int ln9, .int st9]) := FR_at hF_12 (gs_17 hG) (show (17 : Nat) ∉ ([35] : List Nat) by decide) hsh.1
    have fb_14 : f_12 (g 44) = .inl (cI, 300, .inl ch9) := FR_at hF_12 (gs_44 hG) (show (44 : Nat) ∉ ([35] : List Nat) by decide) hsh.2.1
    have fb_15 : f_12 (g 45) = .inl (cI, 300, .inl cl9) := FR_at hF_12 (gs_45 hG) (show (45 : Nat) ∉ ([35] : List Nat) by decide) hsh.2.2
    have fb_16 : f_12 (g 10) = .inr (10, [.int (nI jn), .ref (g 11), .ref (g 12), .ref (g 13), .ref (g 15), .ref (g 16), .ref (g 17), .ref (g 18)]) := FR_at hF_12 (gs_10 hG) (show (10 : Nat) ∉ ([35] : List Nat) by decide) fg_2
    have fb_17 : f_12 (g 12) = .inr (0, [.ref (g 20), .ref (g 21), .int tm_3, .int lk_3]) := FR_at hF_12 (gs_12 hG) (show (12 : Nat) ∉ ([35] : List Nat) by decide) fg_3
    have fb_18 : f_12 r_5 = .inr (5, [.int (nI jn), .int (nI (2 * jn)), .ref p_9, .int len_10]) := FR_at hF_12 s_9 (show (0 : Nat) ∉ ([35] : List Nat) by decide) fg_10
    have fb_19 : f_12 p_9 = .inl (cI, n_9, .inl c_11) := FR_at hF_12 sp_10 (show (1 : Nat) ∉ ([35] : List Nat) by decide) fg_11
    refine a_if_eq (u := r_12.toInt) (tgt := 28) hx hb dX10_add_14 (by decide) (rfl) (fun c_20 => ?_) (fun c_20 => ?_)
    · refine lv_iconst (v := (-1)) hx hb dX10_add_28 (by decide) ?_
      have hz_21 : (-1 : Int32).toInt = (-1) := by decide
      exact g_iret ((-1 : Int32), f_12) hx hb hr hlocks hS rfl (⟨hI, hF, show ∃ (ln1 st1 : Int32) (c1 c2 : Nat → Int32), ShX cI g f_12 ln1 st1 c1 c2 ∧ AddS (Ev lk9 x.toInt) x.toInt y.toInt ln9.toInt st9 ch9 cl9 (-1 : Int32).toInt ln1.toInt st1 c1 c2 from (⟨ln9, st9, ch9, cl9, ⟨fb_13, fb_14, fb_15⟩, Or.inr ⟨Or.inl (fun q8 => by
        have h8 := (hp_12.resolve_left (fun q9 => by have := q9.1; omega)).2
        rw [hn1] at h8
        exact h8 ⟨q8.2.2.1, q8.2.2.2.1⟩), rfl, rfl, rfl, rfl, rfl⟩⟩), show CLS cI cR jn g lv gr L S f_12 T9 lk9 Ev cb n9 from (CLS_fr hcl hG hF (by decide)), show FX S (fun _ => False) [16, 17, 35, 40, 41, 42, 43, 44, 45] f f_12 from (by first | assumption | omega | (subst hj1; omega))⟩) hP hD hQ (Nat.le_of_ble_eq_true rfl) (Nat.le_of_ble_eq_true rfl) dX10_add_29
    · refine lv_iload_n hx hb dX10_add_17 rfl (lv_at hl 3 rfl) ?_
      refine lv_iconst (v := 1) hx hb dX10_add_18 (by decide) ?_
      refine a_icmp_lt (u := y.toInt) (v := 1) (tgt := 28) hx hb dX10_add_19 (by decide) (rfl) (by decide) (fun c_22 => ?_) (fun c_22 => ?_)
      · refine lv_iconst (v := (-1)) hx hb dX10_add_28 (by decide) ?_
        have hz_23 : (-1 : Int32).toInt = (-1) := by decide
        exact g_iret ((-1 : Int32), f_12) hx hb hr hlocks hS rfl (⟨hI, hF, show ∃ (ln1 st1 : Int32) (c1 c2 : Nat → Int32), ShX cI g f_12 ln1 st1 c1 c2 ∧ AddS (Ev lk9 x.toInt) x.toInt y.toInt ln9.toInt st9 ch9 cl9 (-1 : Int32).toInt ln1.toInt st1 c1 c2 from (⟨ln9, st9, ch9, cl9, ⟨fb_13, fb_14, fb_15⟩, Or.inr ⟨Or.inl (fun q8 => by have h8 := q8.2.2.2.2; omega), rfl, rfl, rfl, rfl, rfl⟩⟩), show CLS cI cR jn g lv gr L S f_12 T9 lk9 Ev cb n9 from (CLS_fr hcl hG hF (by decide)), show FX S (fun _ => False) [16, 17, 35, 40, 41, 42, 43, 44, 45] f f_12 from (by first | assumption | omega | (subst hj1; omega))⟩) hP hD hQ (Nat.le_of_ble_eq_true rfl) (Nat.le_of_ble_eq_true rfl) dX10_add_29
      · refine lv_iload_n hx hb dX10_add_22 rfl (lv_at hl 3 rfl) ?_
        refine lv_bipush (v := 50) hx hb dX10_add_23 (by decide) ?_
        refine a_icmp_le (u := y.toInt) (v := 50) (tgt := 30) hx hb dX10_add_25 (by decide) (rfl) (by decide) (fun c_24 => ?_) (fun c_24 => ?_)
        · refine lv_aload_n hx hb dX10_add_30 rfl (lv_at hl 0 rfl) ?_
          refine lv_iconst (v := 0) hx hb dX10_add_31 (by decide) ?_
          have hz_25 : (0 : Int32).toInt = 0 := by decide
          refine roP (va_runS (As := [.ref r_5, .int 0]) (rest := []) ⟨hx, hb, hml, hown, hts⟩ (t_X9_stateOfm l D cI cR cM _ (w := (Ev lk9 x.toInt).2)  hj hG hI m_9 s_9 fb_18 fb_19 (by first | assumption | omega | (subst hj1; omega)) (by rw [hn1]; exact hn2) (by rw [show (0 : Int32).toInt = 0 from rfl]; omega)) (va_cwS 2 hts gX10_add_X9_stateOf rfl rfl rfl (by decide +kernel) ⟨Nat.le_of_ble_eq_true rfl, Nat.le_of_ble_eq_true rfl⟩) (pre_S hK hP hD) rfl rfl hl.1 rfl (lv_room (Nat.le_of_ble_eq_true rfl)) dX10_add_32 ⟨Nat.le_of_ble_eq_true rfl, Nat.le_of_ble_eq_true rfl⟩) hS hA hP (fun r_26 H locs hw hP hS => ?_)
          have hp_26 : (∃ M9 : Nat, r_26 = nI M9 ∧ StM (Ev lk9 x.toInt).2 len_10.toInt (0 : Int32).toInt M9) := hw
          obtain ⟨M0, hM0, hM1⟩ := hp_26
          have hM1 : StM (Ev lk9 x.toInt).2 (Ev lk9 x.toInt).1 0 M0 := by rw [← hn1]; exact hM1
          have hM2 := hM1.1
          have hpg := (hp_12.resolve_right (fun q9 => by have := q9.1; omega)).2
          rw [hn1] at hpg
          have hKK : scK (Ev lk9 x.toInt) x.toInt y.toInt := ⟨hx8, hn0, hpg.1, hpg.2, by omega, by omega⟩
          refine lv_istore (lv' := [(4, .int r_26), (3, .ref r_5), (0, .ref (g 10)), (1, .int x), (2, .int y)]) hx hb dX10_add_35 hl (by decide) rfl (fun ls hl => ?_)
          have join27 : ∀ (r9 : Int32) (f_27 : Nat → va_E) (H : Heap) (locs : List Loc) (ls : Array Slot), IN jn cI cR cM g L S f_27 → FR S [16, 17, 35, 40, 41, 42, 43, 44, 45] f f_27 → (-1 ≤ r9.toInt ∧ r9.toInt ≤ 511) → (ShX cI g f_27 ln9 st9 ch9 cl9) → (∃ v9 : Nat → Int32, f_27 (g 43) = .inl (cI, 512, .inl v9) ∧ Fnd st9 ln9.toInt M0 r9.toInt v9) → (FX S (fun _ => False) [16, 17, 35, 40, 41, 42, 43, 44, 45] f f_27) → va_P D vwCl (va_pl L f_27) H → va_D A (va_pl L f_27) → va_S A s.heap H locs → lv_has ls 7 [(0, .ref (g 10)), (1, .int x), (2, .int y), (3, .ref r_5), (4, .int r_26)] → W p l e ({ frames := 5, cells := 0, slots := 0, locals := 108 }) s m args below meth c H locs (0) (0) Q (F0 m 67 ls [.int r9]) := by
            intro r9 f_27 H locs ls hI hF hr9 hj5 hfd hFX hP hD hS hl
            obtain ⟨v9, hv43, hfd⟩ := hfd
            obtain ⟨jv0_28, jv1_28⟩ := iv_17 hI (gm_17 hG) (gs_17 hG) hj5.1
            obtain ⟨len_29, fg_29, v1_29, v2_29, v3_29, mp_29, sp_29⟩ := op_0 hI m_9 s_9
            obtain ⟨w1_29, w2_29, w3_29, w4_29, w5_29⟩ := lenw hj v1_29 v2_29 v3_29
            obtain ⟨c_30, fg_30, iv0_30⟩ := op_1 hI mp_10 sp_10
            obtain ⟨hm1_31, hm2_31⟩ := RWf_at (RWf_fr hr8 hF (by decide)) s_9 fg_29 fg_30
            refine lv_istore (lv' := [(5, .int r9), (0, .ref (g 10)), (1, .int x), (2, .int y), (3, .ref r_5), (4, .int r_26)]) hx hb dX10_add_67 hl (by decide) rfl (fun ls hl => ?_)
            refine lv_iload hx hb dX10_add_69 (lv_at hl 0 rfl) ?_
            refine lv_iconst (v := (-1)) hx hb dX10_add_71 (by decide) ?_
            refine a_icmp_eq (u := r9.toInt) (v := (-1)) (tgt := 94) hx hb dX10_add_72 (by decide) (rfl) (by decide) (fun c_32 => ?_) (fun c_32 => ?_)
            · refine lv_iconst (v := (-1)) hx hb dX10_add_94 (by decide) ?_
              have hz_33 : (-1 : Int32).toInt = (-1) := by decide
              exact g_iret ((-1 : Int32), f_27) hx hb hr hlocks hS rfl (⟨hI, hF, show ∃ (ln1 st1 : Int32) (c1 c2 : Nat → Int32), ShX cI g f_27 ln1 st1 c1 c2 ∧ AddS (Ev lk9 x.toInt) x.toInt y.toInt ln9.toInt st9 ch9 cl9 (-1 : Int32).toInt ln1.toInt st1 c1 c2 from (⟨ln9, st9, ch9, cl9, ⟨hj5.1, hj5.2.1, hj5.2.2⟩, Or.inr ⟨Or.inr ⟨hKK, M0, hM1, Or.inl (hfd.elim (fun q9 => ⟨q9.1, q9.2.2⟩) (fun q9 => by obtain ⟨hs8, -, h8, -⟩ := q9; omega))⟩, rfl, rfl, rfl, rfl, rfl⟩⟩), show CLS cI cR jn g lv gr L S f_27 T9 lk9 Ev cb n9 from (CLS_fr hcl hG hF (by decide)), show FX S (fun _ => False) [16, 17, 35, 40, 41, 42, 43, 44, 45] f f_27 from (by first | assumption | omega | (subst hj1; omega))⟩) hP hD hQ (Nat.le_of_ble_eq_true rfl) (Nat.le_of_ble_eq_true rfl) dX10_add_95
            · obtain ⟨hs9, hw1, hw2, hw3, hw4⟩ := hfd.resolve_left (fun q9 => by have := q9.2.1; omega)
              refine lv_aload_n hx hb dX10_add_75 rfl (lv_at hl 1 rfl) ?_
              have fg_34 := op_10 hI (gm_10 hG) (gs_10 hG)
              refine t_get (D := D) (L := L) (f := f_27) (ci := 10) (v := .ref (g 17)) (C := RX10) (T := TX10) (N := 8) hx hb hts (by decide +kernel) hown hK.1 hP (gm_10 hG) fg_34 rfl 6 (by decide) (hts (.fieldLink RX10 67 "JugglingHall" "sheet" "LJugglingHall$Sheet;") (by decide +kernel)) (fun _ h9 => h9) rfl dX10_add_76 ?_
              refine lv_iload hx hb dX10_add_79 (lv_at hl 0 rfl) ?_
              refine lv_iload_n hx hb dX10_add_81 rfl (lv_at hl 3 rfl) ?_
              refine lv_aload_n hx hb dX10_add_82 rfl (lv_at hl 4 rfl) ?_
              refine t_getN (D := D) (L := L) (f := f_27) (ci := 5) (v := .int len_29) (C := RX5) (T := TX5) (N := 4) (host := "JugglingHall") hx hb hts (by decide +kernel) hown hK.1 hP m_9 fg_29 rfl 3 (by decide) (hK.nw (.fieldLinkNest RX10 115 "JugglingHall$Row" "length" "I" "JugglingHall") (by decide +kernel) rfl) (fun _ h9 => h9) rfl dX10_add_83 ?_
              have hm50 := mul50 (a := y.toInt) (b := len_29.toInt) (by subst hj1; omega) (by subst hj1; omega)
              have hmE : y.toInt * len_29.toInt = y.toInt * (Ev lk9 x.toInt).1 := by rw [hm1_31]
              refine a_imul (u := y.toInt) (v := len_29.toInt) hx hb dX10_add_86 (rfl) (rfl) (by subst hj1; omega) (fun z_35 e_35 => ?_)
              refine a_iadd (u := r9.toInt) (v := (y.toInt * len_29.toInt)) hx hb dX10_add_87 (rfl) (e_35) (by subst hj1; omega) (fun z_36 e_36 => ?_)
              refine roP (va_runV (As := [.int z_36]) (rest := []) ⟨hx, hb, hml, hown, hts⟩ (t_X6_hasRoomm l D cI cR cM _ (ln9 := ln9) (st9 := st9) (ch9 := ch9) (cl9 := cl9)  hj hG hI  (by first | assumption | omega | (subst hj1; omega)) (hj5) (by subst hj1; omega)) (cwV 1 hts gX10_add_X6_hasRoom rfl rfl rfl (by decide +kernel) ⟨Nat.le_of_ble_eq_true rfl, Nat.le_of_ble_eq_true rfl⟩) (pre_T hK hP hD (gm_17 hG) hj5.1 rfl) rfl rfl hl.1 rfl (lv_room (Nat.le_of_ble_eq_true rfl)) dX10_add_88 ⟨Nat.le_of_ble_eq_true rfl, Nat.le_of_ble_eq_true rfl⟩) hS hA hP (fun r_37 H locs hw hP hS => ?_)
              obtain ⟨hp_37, h01_37⟩ : ((r_37.toInt = 1 ∧ ln9.toInt + z_36.toInt ≤ 300) ∨ (r_37.toInt = 0 ∧ 300 < ln9.toInt + z_36.toInt)) ∧ (r_37.toInt = 0 ∨ r_37.toInt = 1) := hw
              refine a_if_ne (u := r_37.toInt) (tgt := 96) hx hb dX10_add_91 (by decide) (rfl) (fun c_38 => ?_) (fun c_38 => ?_)
              · have hroom := (hp_37.resolve_right (fun q9 => by have := q9.1; omega)).2
                have hws : ∀ h ∈ hs9, h < 10 := by
                  rcases hw1 with ⟨-, h8⟩ | ⟨-, a9, -, -, h8⟩
                  · rw [h8]; exact fun h h9 => absurd h9 (List.not_mem_nil)
                  · exact jrun_small h8.1
                refine lv_iconst (v := 0) hx hb dX10_add_96 (by decide) ?_
                refine lv_istore (lv' := [(6, .int 0), (5, .int r9), (0, .ref (g 10)), (1, .int x), (2, .int y), (3, .ref r_5), (4, .int r_26)]) hx hb dX10_add_97 hl (by decide) rfl (fun ls hl => ?_)
                have loop99 : ∀ (ddloop99 : Nat) (ii : Int32) (f_39 : Nat → va_E) (H : Heap) (locs : List Loc) (ls : Array Slot), (1000 - ii.toInt).toNat < ddloop99 → IN jn cI cR cM g L S f_39 → FR S [16, 17, 35, 40, 41, 42, 43, 44, 45] f f_39 → (0 ≤ ii.toInt ∧ ii.toInt ≤ r9.toInt) → (∃ (lnA : Int32) (dA dB : Nat → Int32), lnA.toInt = ln9.toInt + ii.toInt ∧ ShX cI g f_39 lnA st9 dA dB ∧ ScP ch9 cl9 dA dB ln9.toInt ii.toInt (scV (Ev lk9 x.toInt).2 (Ev lk9 x.toInt).1 hs9) (scX x.toInt hs9)) → (f_39 (g 43) = .inl (cI, 512, .inl v9)) → (FX S (fun _ => False) [16, 17, 35, 40, 41, 42, 43, 44, 45] f f_39) → va_P D vwCl (va_pl L f_39) H → va_D A (va_pl L f_39) → va_S A s.heap H locs → lv_has ls 7 [(0, .ref (g 10)), (1, .int x), (2, .int y), (3, .ref r_5), (4, .int r_26), (5, .int r9), (6, .int ii)] → W p l e ({ frames := 5, cells := 0, slots := 0, locals := 108 }) s m args below meth c H locs (0) (0) Q (F0 m 99 ls []) := by
                  intro ddloop99
                  induction ddloop99 with
                  | zero =>
                    intro ii f_39 H locs ls hdd
                    exact absurd hdd (Nat.not_lt_zero _)
                  | succ ddloop99 ih99 =>
                    intro ii f_39 H locs ls hdd hI hF hi hsc hv43 hFX hP hD hS hl
                    obtain ⟨ln5, d1, d2, hl1, hl2, hl3⟩ := hsc
                    obtain ⟨jv0_40, jv1_40⟩ := iv_17 hI (gm_17 hG) (gs_17 hG) hl2.1
                    refine lv_iload hx hb dX10_add_99 (lv_at hl 6 rfl) ?_
                    refine lv_iload hx hb dX10_add_101 (lv_at hl 5 rfl) ?_
                    refine a_icmp_ge (u := ii.toInt) (v := r9.toInt) (tgt := 130) hx hb dX10_add_103 (by decide) (rfl) (rfl) (fun c_41 => ?_) (fun c_41 => ?_)
                    · refine lv_iconst (v := 0) hx hb dX10_add_130 (by decide) ?_
                      refine lv_istore (lv' := [(6, .int 0), (0, .ref (g 10)), (1, .int x), (2, .int y), (3, .ref r_5), (4, .int r_26), (5, .int r9)]) hx hb dX10_add_131 hl (by decide) rfl (fun ls hl => ?_)
                      have loop133 : ∀ (ddloop133 : Nat) (jj : Int32) (f_42 : Nat → va_E) (H : Heap) (locs : List Loc) (ls : Array Slot), (100 - jj.toInt).toNat < ddloop133 → IN jn cI cR cM g L S f_42 → FR S [16, 17, 35, 40, 41, 42, 43, 44, 45] f f_42 → (0 ≤ jj.toInt ∧ jj.toInt ≤ y.toInt) → (∃ (lnA : Int32) (dA dB : Nat → Int32), lnA.toInt = ln9.toInt + (hs9.length : Int) + jj.toInt * (Ev lk9 x.toInt).1 ∧ ShX cI g f_42 lnA st9 dA dB ∧ ScP ch9 cl9 dA dB ln9.toInt ((hs9.length : Int) + jj.toInt * (Ev lk9 x.toInt).1) (scV (Ev lk9 x.toInt).2 (Ev lk9 x.toInt).1 hs9) (scX x.toInt hs9)) → (FX S (fun _ => False) [16, 17, 35, 40, 41, 42, 43, 44, 45] f f_42) → va_P D vwCl (va_pl L f_42) H → va_D A (va_pl L f_42) → va_S A s.heap H locs → lv_has ls 7 [(0, .ref (g 10)), (1, .int x), (2, .int y), (3, .ref r_5), (4, .int r_26), (5, .int r9), (6, .int jj)] → W p l e ({ frames := 5, cells := 0, slots := 0, locals := 108 }) s m args below meth c H locs (0) (0) Q (F0 m 133 ls []) := by
                        intro ddloop133
                        induction ddloop133 with
                        | zero =>
                          intro jj f_42 H locs ls hdd
                          exact absurd hdd (Nat.not_lt_zero _)
                        | succ ddloop133 ih133 =>
                          intro jj f_42 H locs ls hdd hI hF hi3 hsc hFX hP hD hS hl
                          obtain ⟨ln5, d1, d2, hl1, hl2, hl3⟩ := hsc
                          obtain ⟨jv0_43, jv1_43⟩ := iv_17 hI (gm_17 hG) (gs_17 hG) hl2.1
                          obtain ⟨len_44, fg_44, v1_44, v2_44, v3_44, mp_44, sp_44⟩ := op_0 hI m_9 s_9
                          obtain ⟨w1_44, w2_44, w3_44, w4_44, w5_44⟩ := lenw hj v1_44 v2_44 v3_44
                          obtain ⟨c_45, fg_45, iv0_45⟩ := op_1 hI mp_10 sp_10
                          obtain ⟨hm1_46, hm2_46⟩ := RWf_at (RWf_fr hr8 hF (by decide)) s_9 fg_44 fg_45
                          refine lv_iload hx hb dX10_add_133 (lv_at hl 6 rfl) ?_
                          refine lv_iload_n hx hb dX10_add_135 rfl (lv_at hl 2 rfl) ?_
                          refine a_icmp_ge (u := jj.toInt) (v := y.toInt) (tgt := 154) hx hb dX10_add_136 (by decide) (rfl) (rfl) (fun c_47 => ?_) (fun c_47 => ?_)
                          · have hjy : jj.toInt * (Ev lk9 x.toInt).1 = y.toInt * (Ev lk9 x.toInt).1 := by rw [show jj.toInt = y.toInt by omega]
                            refine lv_aload_n hx hb dX10_add_154 rfl (lv_at hl 0 rfl) ?_
                            have fg_48 := op_10 hI (gm_10 hG) (gs_10 hG)
                            refine t_get (D := D) (L := L) (f := f_42) (ci := 10) (v := .ref (g 17)) (C := RX10) (T := TX10) (N := 8) hx hb hts (by decide +kernel) hown hK.1 hP (gm_10 hG) fg_48 rfl 6 (by decide) (hts (.fieldLink RX10 67 "JugglingHall" "sheet" "LJugglingHall$Sheet;") (by decide +kernel)) (fun _ h9 => h9) rfl dX10_add_155 ?_
                            refine lv_iload hx hb dX10_add_158 (lv_at hl 4 rfl) ?_
                            refine t_putN (D := D) (L := L) (f := f_42) (ci := 6) (v := .int r_26) (ty := .int) (C := RX6) (T := TX6) (N := 4) (host := "JugglingHall") hx hb hts (by decide +kernel) tyX6 tyX6_ok nmX6 hown hK.1 hP hD hS (gm_17 hG) hl2.1 rfl 3 (by decide) (hK.nw (.fieldLinkNest RX10 201 "JugglingHall$Sheet" "state" "I" "JugglingHall") (by decide +kernel) rfl) (fun _ h9 => h9) rfl (by decide +kernel) rfl rfl (Nat.le_of_ble_eq_true rfl) dX10_add_160 (fun f_49 H locs e9_49 o_49 hP hD hS => ?_)
                            have fa_49 : f_49 (g 17) = .inr (6, [.ref (g 44), .ref (g 45), .int ln5, .int r_26]) := e9_49
                            have hI := IN_set (e := .inr (6, [.ref (g 44), .ref (g 45), .int ln5, .int r_26])) hI (gs_17 hG) (mk_17 (by first | assumption | omega | (subst hj1; omega)) (by first | assumption | omega | (subst hj1; omega))) fa_49 o_49
                            have hF := FR_set hF (gs_17 hG) (show (17 : Nat) ∈ ([16, 17, 35, 40, 41, 42, 43, 44, 45] : List Nat) by decide) o_49
                            have hFX := FX_setT hFX (gs_17 hG) (show (17 : Nat) ∈ ([16, 17, 35, 40, 41, 42, 43, 44, 45] : List Nat) by decide) o_49
                            have fb_50 : f_49 (g 44) = .inl (cI, 300, .inl d1) := f_at o_49 (S_ne (gs_44 hG) (gs_17 hG) (show (44 : Nat) ≠ 17 by decide)) hl2.2.1
                            have fb_51 : f_49 (g 45) = .inl (cI, 300, .inl d2) := f_at o_49 (S_ne (gs_45 hG) (gs_17 hG) (show (45 : Nat) ≠ 17 by decide)) hl2.2.2
                            have fb_52 : f_49 r_5 = .inr (5, [.int (nI jn), .int (nI (2 * jn)), .ref p_9, .int len_44]) := f_at o_49 (S_ne s_9 (gs_17 hG) (show (0 : Nat) ≠ 17 by decide)) fg_44
                            have fb_53 : f_49 p_9 = .inl (cI, n_9, .inl c_45) := f_at o_49 (S_ne sp_10 (gs_17 hG) (show (1 : Nat) ≠ 17 by decide)) fg_45
                            have fb_54 : f_49 (g 10) = .inr (10, [.int (nI jn), .ref (g 11), .ref (g 12), .ref (g 13), .ref (g 15), .ref (g 16), .ref (g 17), .ref (g 18)]) := f_at o_49 (S_ne (gs_10 hG) (gs_17 hG) (show (10 : Nat) ≠ 17 by decide)) fg_48
                            refine lv_aload_n hx hb dX10_add_163 rfl (lv_at hl 0 rfl) ?_
                            refine t_get (D := D) (L := L) (f := f_49) (ci := 10) (v := .ref (g 17)) (C := RX10) (T := TX10) (N := 8) hx hb hts (by decide +kernel) hown hK.1 hP (gm_10 hG) fb_54 rfl 6 (by decide) (hts (.fieldLink RX10 67 "JugglingHall" "sheet" "LJugglingHall$Sheet;") (by decide +kernel)) (fun _ h9 => h9) rfl dX10_add_164 ?_
                            refine t_getN (D := D) (L := L) (f := f_49) (ci := 6) (v := .int ln5) (C := RX6) (T := TX6) (N := 4) (host := "JugglingHall") hx hb hts (by decide +kernel) hown hK.1 hP (gm_17 hG) fa_49 rfl 2 (by decide) (hK.nw (.fieldLinkNest RX10 200 "JugglingHall$Sheet" "length" "I" "JugglingHall") (by decide +kernel) rfl) (fun _ h9 => h9) rfl dX10_add_167 ?_
                            exact g_iret (ln5, f_49) hx hb hr hlocks hS rfl (⟨hI, hF, show ∃ (ln1 st1 : Int32) (c1 c2 : Nat → Int32), ShX cI g f_49 ln1 st1 c1 c2 ∧ AddS (Ev lk9 x.toInt) x.toInt y.toInt ln9.toInt st9 ch9 cl9 ln5.toInt ln1.toInt st1 c1 c2 from (⟨ln5, _, d1, d2, ⟨fa_49, fb_50, fb_51⟩, Or.inl ⟨M0, hs9, hKK, hM1, hw1, by omega, by rw [hjy] at hl1; omega, rfl, hM0, by rw [hjy] at hl3; exact hl3⟩⟩), show CLS cI cR jn g lv gr L S f_49 T9 lk9 Ev cb n9 from (CLS_fr hcl hG hF (by decide)), show FX S (fun _ => False) [16, 17, 35, 40, 41, 42, 43, 44, 45] f f_49 from (by first | assumption | omega | (subst hj1; omega))⟩) hP hD hQ (Nat.le_of_ble_eq_true rfl) (Nat.le_of_ble_eq_true rfl) dX10_add_170
                          · have hmj := mulJ (a := jj.toInt) (b := y.toInt) (m := (Ev lk9 x.toInt).1) (by subst hj1; omega) (by subst hj1; omega) hn0
                            refine lv_aload_n hx hb dX10_add_139 rfl (lv_at hl 0 rfl) ?_
                            have fg_55 := op_10 hI (gm_10 hG) (gs_10 hG)
                            refine t_get (D := D) (L := L) (f := f_42) (ci := 10) (v := .ref (g 17)) (C := RX10) (T := TX10) (N := 8) hx hb hts (by decide +kernel) hown hK.1 hP (gm_10 hG) fg_55 rfl 6 (by decide) (hts (.fieldLink RX10 67 "JugglingHall" "sheet" "LJugglingHall$Sheet;") (by decide +kernel)) (fun _ h9 => h9) rfl dX10_add_140 ?_
                            refine lv_aload_n hx hb dX10_add_143 rfl (lv_at hl 3 rfl) ?_
                            refine lv_iload_n hx hb dX10_add_144 rfl (lv_at hl 1 rfl) ?_
                            refine call_p (va_runV (As := [.ref r_5, .int x]) (rest := []) ⟨hx, hb, hml, hown, hts⟩ (t_X6_writeRowm l D cI cR cM _ (ln9 := ln5) (st9 := st9) (ch9 := d1) (cl9 := d2) (w := (Ev lk9 x.toInt).2)  hj hG hI m_9 s_9 fg_44 fg_45 (by first | assumption | omega | (subst hj1; omega)) (hl2) (by rw [hm1_46]; exact hm2_46) (by subst hj1; omega) (by subst hj1; omega)) (cwV 2 hts gX10_add_X6_writeRow rfl rfl rfl (by decide +kernel) ⟨Nat.le_of_ble_eq_true rfl, Nat.le_of_ble_eq_true rfl⟩) (pre_T hK hP hD (gm_17 hG) hl2.1 rfl) rfl rfl hl.1 rfl (lv_room (Nat.le_of_ble_eq_true rfl)) dX10_add_145 ⟨Nat.le_of_ble_eq_true rfl, Nat.le_of_ble_eq_true rfl⟩) hD hS hA (fun u_56 H locs hw hP hD hS => ?_)
                            obtain ⟨f_56, e0_56⟩ : ∃ x, x = u_56 := ⟨_, rfl⟩
                            subst e0_56
                            obtain ⟨hI, hF_56, hp_56, hfx_56⟩ : IN jn cI cR cM g L S f_56 ∧ FR S [17, 44, 45] f_42 f_56 ∧ (∃ (lnA : Int32) (dA dB : Nat → Int32), lnA.toInt = ln5.toInt + len_44.toInt ∧ ShX cI g f_56 lnA st9 dA dB ∧ ScP d1 d2 dA dB ln5.toInt len_44.toInt (fun i => (Ev lk9 x.toInt).2 (2 * i)) (fun _ => x.toInt)) ∧ (FX S (fun _ => False) [17, 44, 45] f_42 f_56) := hw
                            have hP : va_P D vwCl (va_pl L f_56) H := hP
                            have hD : va_D A (va_pl L f_56) := hD
                            have hF := FR_tr hF hF_56 (by decide)
                            have hFX := FX_tr hFX hfx_56 (fun _ h9 => h9.elim) (by decide)
                            have fb_57 : f_56 r_5 = .inr (5, [.int (nI jn), .int (nI (2 * jn)), .ref p_9, .int len_44]) := FR_at hF_56 s_9 (show (0 : Nat) ∉ ([17, 44, 45] : List Nat) by decide) fg_44
                            have fb_58 : f_56 p_9 = .inl (cI, n_9, .inl c_45) := FR_at hF_56 sp_10 (show (1 : Nat) ∉ ([17, 44, 45] : List Nat) by decide) fg_45
                            have fb_59 : f_56 (g 10) = .inr (10, [.int (nI jn), .ref (g 11), .ref (g 12), .ref (g 13), .ref (g 15), .ref (g 16), .ref (g 17), .ref (g 18)]) := FR_at hF_56 (gs_10 hG) (show (10 : Nat) ∉ ([17, 44, 45] : List Nat) by decide) fg_55
                            obtain ⟨le_56, da_56, db_56, pa_56, pb_56, pc_56⟩ := hp_56
                            obtain ⟨jv0_60, jv1_60⟩ := iv_17 hI (gm_17 hG) (gs_17 hG) pb_56.1
                            obtain ⟨z_61, q_61, e_61⟩ := i_inc (a := jj.toInt) (1) (rfl) (by decide) (by subst hj1; omega) (by subst hj1; omega)
                            refine lv_iinc (v := z_61) (lv' := [(6, .int z_61), (0, .ref (g 10)), (1, .int x), (2, .int y), (3, .ref r_5), (4, .int r_26), (5, .int r9)]) hx hb dX10_add_148 hl (k := 6) rfl q_61 (by decide) rfl (fun ls hl => ?_)
                            have hjn : z_61.toInt * (Ev lk9 x.toInt).1 = jj.toInt * (Ev lk9 x.toInt).1 + (Ev lk9 x.toInt).1 := by rw [show z_61.toInt = jj.toInt + 1 by omega, Int.add_mul, Int.one_mul]
                            refine lv_goto (tgt := 133) hx hb dX10_add_151 (by decide) ?_
                            exact ih133 z_61 f_56 _ _ _ (by subst hj1; omega) hI hF (by first | assumption | omega | (subst hj1; omega)) (⟨_, _, _, by rw [hjn]; omega, pb_56, ScP_tr hl3 pc_56 (by subst hj1; omega) (by rw [hjn]; omega) (by subst hj1; omega) (by subst hj1; omega) (fun i9 h8 h9 => by exact scV_m (by subst hj1; omega) (by subst hj1; omega) i9 h8 (by subst hj1; omega))⟩) (by first | assumption | omega | (subst hj1; omega)) hP hD hS (lv_sub hl [1, 2, 3, 4, 5, 6, 0] rfl)
                      have hz_62 : (0 : Int32).toInt = 0 := by decide
                      exact loop133 ((100 - (0 : Int32).toInt).toNat + 1) (0 : Int32) f_39 _ _ _ (by subst hj1; omega) hI hF (by first | assumption | omega | (subst hj1; omega)) (⟨ln5, d1, d2, by rw [show (0 : Int32).toInt = 0 from rfl, Int.zero_mul]; omega, ⟨hl2.1, hl2.2.1, hl2.2.2⟩, by rw [show (hs9.length : Int) + (0 : Int32).toInt * (Ev lk9 x.toInt).1 = ii.toInt by rw [show (0 : Int32).toInt = 0 from rfl, Int.zero_mul]; omega]; exact hl3⟩) (by first | assumption | omega | (subst hj1; omega)) hP hD hS (lv_sub hl [1, 2, 3, 4, 5, 6, 0] rfl)
                    · refine lv_aload_n hx hb dX10_add_106 rfl (lv_at hl 0 rfl) ?_
                      have fg_63 := op_10 hI (gm_10 hG) (gs_10 hG)
                      refine t_get (D := D) (L := L) (f := f_39) (ci := 10) (v := .ref (g 17)) (C := RX10) (T := TX10) (N := 8) hx hb hts (by decide +kernel) hown hK.1 hP (gm_10 hG) fg_63 rfl 6 (by decide) (hts (.fieldLink RX10 67 "JugglingHall" "sheet" "LJugglingHall$Sheet;") (by decide +kernel)) (fun _ h9 => h9) rfl dX10_add_107 ?_
                      refine lv_aload_n hx hb dX10_add_110 rfl (lv_at hl 0 rfl) ?_
                      refine t_get (D := D) (L := L) (f := f_39) (ci := 10) (v := .ref (g 16)) (C := RX10) (T := TX10) (N := 8) hx hb hts (by decide +kernel) hown hK.1 hP (gm_10 hG) fg_63 rfl 5 (by decide) (hts (.fieldLink RX10 60 "JugglingHall" "ways" "LJugglingHall$Ways;") (by decide +kernel)) (fun _ h9 => h9) rfl dX10_add_111 ?_
                      have fg_64 := op_16 hI (gm_16 hG) (gs_16 hG)
                      refine t_getN (D := D) (L := L) (f := f_39) (ci := 9) (v := .ref (g 43)) (C := RX9) (T := TX9) (N := 4) (host := "JugglingHall") hx hb hts (by decide +kernel) hown hK.1 hP (gm_16 hG) fg_64 rfl 3 (by decide) (hK.nw (.fieldLinkNest RX10 194 "JugglingHall$Ways" "heights" "[I" "JugglingHall") (by decide +kernel) rfl) (fun _ h9 => h9) rfl dX10_add_114 ?_
                      refine lv_iload hx hb dX10_add_117 (lv_at hl 6 rfl) ?_
                      refine t_iald (L := L) (f := f_39) (y := v9) (u := ii.toInt) hx hb hK.1 hP (gm_43 hG) 0 hv43 rfl dX10_add_119 (rfl) (by subst hj1; omega) (fun z_65 q_65 e_65 => ?_)
                      refine lv_iconst (v := (-1)) hx hb dX10_add_120 (by decide) ?_
                      have hz_66 : (-1 : Int32).toInt = (-1) := by decide
                      refine call_p (va_runV (As := [.int z_65, .int (-1)]) (rest := []) ⟨hx, hb, hml, hown, hts⟩ (t_X6_writem l D cI cR cM _ (ln9 := ln5) (st9 := st9) (ch9 := d1) (cl9 := d2)  hj hG hI  (by first | assumption | omega | (subst hj1; omega)) (hl2) (by subst hj1; omega)) (cwV 2 hts gX10_add_X6_write rfl rfl rfl (by decide +kernel) ⟨Nat.le_of_ble_eq_true rfl, Nat.le_of_ble_eq_true rfl⟩) (pre_T hK hP hD (gm_17 hG) hl2.1 rfl) rfl rfl hl.1 rfl (lv_room (Nat.le_of_ble_eq_true rfl)) dX10_add_121 ⟨Nat.le_of_ble_eq_true rfl, Nat.le_of_ble_eq_true rfl⟩) hD hS hA (fun u_67 H locs hw hP hD hS => ?_)
                      obtain ⟨f_67, e0_67⟩ : ∃ x, x = u_67 := ⟨_, rfl⟩
                      subst e0_67
                      obtain ⟨hI, hF_67, hp_67, hfx_67⟩ : IN jn cI cR cM g L S f_67 ∧ FR S [17, 44, 45] f_39 f_67 ∧ (∃ (lnA : Int32) (dA dB : Nat → Int32), lnA.toInt = ln5.toInt + 1 ∧ ShX cI g f_67 lnA st9 dA dB ∧ ScP d1 d2 dA dB ln5.toInt 1 (fun _ => z_65.toInt) (fun _ => (-1 : Int32).toInt)) ∧ (FX S (fun _ => False) [17, 44, 45] f_39 f_67) := hw
                      have hP : va_P D vwCl (va_pl L f_67) H := hP
                      have hD : va_D A (va_pl L f_67) := hD
                      have hF := FR_tr hF hF_67 (by decide)
                      have hFX := FX_tr hFX hfx_67 (fun _ h9 => h9.elim) (by decide)
                      have fb_68 : f_67 (g 43) = .inl (cI, 512, .inl v9) := FR_at hF_67 (gs_43 hG) (show (43 : Nat) ∉ ([17, 44, 45] : List Nat) by decide) hv43
                      have fb_69 : f_67 (g 10) = .inr (10, [.int (nI jn), .ref (g 11), .ref (g 12), .ref (g 13), .ref (g 15), .ref (g 16), .ref (g 17), .ref (g 18)]) := FR_at hF_67 (gs_10 hG) (show (10 : Nat) ∉ ([17, 44, 45] : List Nat) by decide) fg_63
                      have fb_70 : f_67 (g 16) = .inr (9, [.ref (g 40), .ref (g 41), .ref (g 42), .ref (g 43)]) := FR_at hF_67 (gs_16 hG) (show (16 : Nat) ∉ ([17, 44, 45] : List Nat) by decide) fg_64
                      obtain ⟨le_67, da_67, db_67, pa_67, pb_67, pc_67⟩ := hp_67
                      obtain ⟨jv0_71, jv1_71⟩ := iv_17 hI (gm_17 hG) (gs_17 hG) pb_67.1
                      obtain ⟨z_72, q_72, e_72⟩ := i_inc (a := ii.toInt) (1) (rfl) (by decide) (by subst hj1; omega) (by subst hj1; omega)
                      refine lv_iinc (v := z_72) (lv' := [(6, .int z_72), (0, .ref (g 10)), (1, .int x), (2, .int y), (3, .ref r_5), (4, .int r_26), (5, .int r9)]) hx hb dX10_add_124 hl (k := 6) rfl q_72 (by decide) rfl (fun ls hl => ?_)
                      refine lv_goto (tgt := 99) hx hb dX10_add_127 (by decide) ?_
                      exact ih99 z_72 f_67 _ _ _ (by subst hj1; omega) hI hF (by first | assumption | omega | (subst hj1; omega)) (⟨_, _, _, by omega, pb_67, ScP_tr hl3 pc_67 (by subst hj1; omega) (by subst hj1; omega) (by subst hj1; omega) (by subst hj1; omega) (scV_1 hws hw4 (by subst hj1; omega) (by subst hj1; omega) q_65)⟩) (fb_68) (by first | assumption | omega | (subst hj1; omega)) hP hD hS (lv_sub hl [1, 2, 3, 4, 5, 6, 0] rfl)
                have hz_73 : (0 : Int32).toInt = 0 := by decide
                exact loop99 ((1000 - (0 : Int32).toInt).toNat + 1) (0 : Int32) f_27 _ _ _ (by subst hj1; omega) hI hF (by first | assumption | omega | (subst hj1; omega)) (⟨_, _, _, by omega, ⟨hj5.1, hj5.2.1, hj5.2.2⟩, ScP_0 (by decide)⟩) (hv43) (by first | assumption | omega | (subst hj1; omega)) hP hD hS (lv_sub hl [2, 3, 4, 5, 6, 1, 0] rfl)
              · refine lv_iconst (v := (-1)) hx hb dX10_add_94 (by decide) ?_
                have hz_74 : (-1 : Int32).toInt = (-1) := by decide
                exact g_iret ((-1 : Int32), f_27) hx hb hr hlocks hS rfl (⟨hI, hF, show ∃ (ln1 st1 : Int32) (c1 c2 : Nat → Int32), ShX cI g f_27 ln1 st1 c1 c2 ∧ AddS (Ev lk9 x.toInt) x.toInt y.toInt ln9.toInt st9 ch9 cl9 (-1 : Int32).toInt ln1.toInt st1 c1 c2 from (⟨ln9, st9, ch9, cl9, ⟨hj5.1, hj5.2.1, hj5.2.2⟩, Or.inr ⟨Or.inr ⟨hKK, M0, hM1, Or.inr ⟨hs9, hw1, by omega⟩⟩, rfl, rfl, rfl, rfl, rfl⟩⟩), show CLS cI cR jn g lv gr L S f_27 T9 lk9 Ev cb n9 from (CLS_fr hcl hG hF (by decide)), show FX S (fun _ => False) [16, 17, 35, 40, 41, 42, 43, 44, 45] f f_27 from (by first | assumption | omega | (subst hj1; omega))⟩) hP hD hQ (Nat.le_of_ble_eq_true rfl) (Nat.le_of_ble_eq_true rfl) dX10_add_95
          refine lv_aload_n hx hb dX10_add_37 rfl (lv_at hl 2 rfl) ?_
          refine t_get (D := D) (L := L) (f := f_12) (ci := 10) (v := .ref (g 17)) (C := RX10) (T := TX10) (N := 8) hx hb hts (by decide +kernel) hown hK.1 hP (gm_10 hG) fb_16 rfl 6 (by decide) (hts (.fieldLink RX10 67 "JugglingHall" "sheet" "LJugglingHall$Sheet;") (by decide +kernel)) (fun _ h9 => h9) rfl dX10_add_38 ?_
          refine t_getN (D := D) (L := L) (f := f_12) (ci := 6) (v := .int ln9) (C := RX6) (T := TX6) (N := 4) (host := "JugglingHall") hx hb hts (by decide +kernel) hown hK.1 hP (gm_17 hG) fb_13 rfl 2 (by decide) (hK.nw (.fieldLinkNest RX10 200 "JugglingHall$Sheet" "length" "I" "JugglingHall") (by decide +kernel) rfl) (fun _ h9 => h9) rfl dX10_add_41 ?_
          refine a_if_ne (u := ln9.toInt) (tgt := 51) hx hb dX10_add_44 (by decide) (rfl) (fun c_75 => ?_) (fun c_75 => ?_)
          · refine lv_aload_n hx hb dX10_add_51 rfl (lv_at hl 2 rfl) ?_
            refine t_get (D := D) (L := L) (f := f_12) (ci := 10) (v := .ref (g 16)) (C := RX10) (T := TX10) (N := 8) hx hb hts (by decide +kernel) hown hK.1 hP (gm_10 hG) fb_16 rfl 5 (by decide) (hts (.fieldLink RX10 60 "JugglingHall" "ways" "LJugglingHall$Ways;") (by decide +kernel)) (fun _ h9 => h9) rfl dX10_add_52 ?_
            refine lv_aload_n hx hb dX10_add_55 rfl (lv_at hl 2 rfl) ?_
            refine t_get (D := D) (L := L) (f := f_12) (ci := 10) (v := .ref (g 17)) (C := RX10) (T := TX10) (N := 8) hx hb hts (by decide +kernel) hown hK.1 hP (gm_10 hG) fb_16 rfl 6 (by decide) (hts (.fieldLink RX10 67 "JugglingHall" "sheet" "LJugglingHall$Sheet;") (by decide +kernel)) (fun _ h9 => h9) rfl dX10_add_56 ?_
            refine t_getN (D := D) (L := L) (f := f_12) (ci := 6) (v := .int st9) (C := RX6) (T := TX6) (N := 4) (host := "JugglingHall") hx hb hts (by decide +kernel) hown hK.1 hP (gm_17 hG) fb_13 rfl 3 (by decide) (hK.nw (.fieldLinkNest RX10 201 "JugglingHall$Sheet" "state" "I" "JugglingHall") (by decide +kernel) rfl) (fun _ h9 => h9) rfl dX10_add_59 ?_
            refine lv_iload hx hb dX10_add_62 (lv_at hl 0 rfl) ?_
            have fg_76 := op_16 hI (gm_16 hG) (gs_16 hG)
            obtain ⟨c_77, fg_77⟩ := op_40 hI (gm_40 hG) (gs_40 hG)
            obtain ⟨c_78, fg_78⟩ := op_41 hI (gm_41 hG) (gs_41 hG)
            obtain ⟨c_79, fg_79⟩ := op_42 hI (gm_42 hG) (gs_42 hG)
            obtain ⟨c_80, fg_80⟩ := op_43 hI (gm_43 hG) (gs_43 hG)
            by_cases hin_81 : ∃ a b : Nat, a < 512 ∧ b < 512 ∧ st9 = nI a ∧ r_26 = nI b
            · have hq_81 : ∀ q ∈ ([(g 16, .inr (9, [.ref (g 40), .ref (g 41), .ref (g 42), .ref (g 43)])), (g 40, .inl (cI, 512, .inl c_77)), (g 41, .inl (cI, 512, .inl c_78)), (g 42, .inl (cI, 512, .inl c_79)), (g 43, .inl (cI, 512, .inl c_80))] : va_W), q.1 ∈ L ∧ f_12 q.1 = q.2 := List.forall_mem_cons.mpr ⟨⟨(gm_16 hG), fg_76⟩, List.forall_mem_cons.mpr ⟨⟨(gm_40 hG), fg_77⟩, List.forall_mem_cons.mpr ⟨⟨(gm_41 hG), fg_78⟩, List.forall_mem_cons.mpr ⟨⟨(gm_42 hG), fg_79⟩, List.forall_mem_cons.mpr ⟨⟨(gm_43 hG), fg_80⟩, fun _ h9 => absurd h9 (List.not_mem_nil)⟩⟩⟩⟩⟩
              have hPc := p_list hP hq_81
              have hDc : va_D (fun _ => True) ([(g 16, .inr (9, [.ref (g 40), .ref (g 41), .ref (g 42), .ref (g 43)])), (g 40, .inl (cI, 512, .inl c_77)), (g 41, .inl (cI, 512, .inl c_78)), (g 42, .inl (cI, 512, .inl c_79)), (g 43, .inl (cI, 512, .inl c_80))] : va_W) := d_list (show (([(g 16, .inr (9, [.ref (g 40), .ref (g 41), .ref (g 42), .ref (g 43)])), (g 40, .inl (cI, 512, .inl c_77)), (g 41, .inl (cI, 512, .inl c_78)), (g 42, .inl (cI, 512, .inl c_79)), (g 43, .inl (cI, 512, .inl c_80))] : va_W).map Prod.fst).Nodup from sg_nd hG [16, 40, 41, 42, 43] (by decide) (by decide))
              obtain ⟨a_81, b_81, ha_81, hb_81, ea_81, eb_81⟩ := hin_81
              refine W.eq (g2 := F0 m 64 ls [.int (nI b_81), .int (nI a_81), .ref (g 16)]) (by rw [ea_81, eb_81]) ?_
              refine call_sub (L := L) (f := f_12) (va_runV (As := [.int (nI a_81), .int (nI b_81)]) (rest := []) ⟨hx, hb, hml, hown, hts⟩ (c_find_in l D cI cR cM _ ha_81 hb_81 (g 16) (g 40) (g 41) (g 42) (g 43) c_77 c_78 c_79 c_80) (cwV 2 hts gX10_add_X9_find rfl rfl rfl (by decide +kernel) ⟨Nat.le_of_ble_eq_true rfl, Nat.le_of_ble_eq_true rfl⟩) (pre_V hK hPc hDc 0 9 rfl rfl) rfl rfl hl.1 rfl (lv_room (Nat.le_of_ble_eq_true rfl)) dX10_add_64 ⟨Nat.le_of_ble_eq_true rfl, Nat.le_of_ble_eq_true rfl⟩) hP hD hS hA (fun q hq => (hq_81 q hq).1) (fun _ => rfl) (fun u_81 f_81 H locs hw_81 hf_81 ho_81 hP hD hS => ?_)
              have hF_81 : FR S [16, 40, 41, 42, 43] f_12 f_81 := fun b hb9 => ho_81 b (fun h9 => hb9 (sg_in hG h9 (ks := [16, 40, 41, 42, 43]) (by decide) (by decide)))
              have hI := IN_at (ks := [16, 40, 41, 42, 43]) hI ho_81 (List.forall_mem_cons.mpr ⟨ok_at (gs_16 hG) (hf_81 _ (List.mem_cons_self ..)) mk_16, List.forall_mem_cons.mpr ⟨ok_at (gs_40 hG) (hf_81 _ (List.mem_cons_of_mem _ (List.mem_cons_self ..))) mk_40, List.forall_mem_cons.mpr ⟨ok_at (gs_41 hG) (hf_81 _ (List.mem_cons_of_mem _ (List.mem_cons_of_mem _ (List.mem_cons_self ..)))) mk_41, List.forall_mem_cons.mpr ⟨ok_at (gs_42 hG) (hf_81 _ (List.mem_cons_of_mem _ (List.mem_cons_of_mem _ (List.mem_cons_of_mem _ (List.mem_cons_self ..))))) mk_42, List.forall_mem_cons.mpr ⟨ok_at (gs_43 hG) (hf_81 _ (List.mem_cons_of_mem _ (List.mem_cons_of_mem _ (List.mem_cons_of_mem _ (List.mem_cons_of_mem _ (List.mem_cons_self ..)))))) mk_43, fun _ h9 => absurd h9 (List.not_mem_nil)⟩⟩⟩⟩⟩)
              obtain ⟨r_81, v1_81, v2_81, v3_81, v4_81⟩ := u_81
              have hr_81 : -1 ≤ r_81.toInt ∧ r_81.toInt ≤ 511 := by
                rcases hw_81 with ⟨-, h9⟩ | ⟨hs9, -, h8, h9, -⟩
                · have h9 : r_81 = -1 := h9
                  rw [h9]; decide
                · have h9 : r_81 = nI hs9.length := h9
                  rw [h9, nI_toInt (by subst hj1; omega)]; omega
              have hF := FR_tr hF hF_81 (by decide)
              have hFX := FX_trR hFX hF_81 (by decide) (by decide)
              have hP : va_P D vwCl (va_pl L f_81) H := hP
              have hD : va_D A (va_pl L f_81) := hD
              have fb_82 : f_81 (g 17) = .inr (6, [.ref (g 44), .ref (g 45), .int ln9, .int st9]) := FR_at hF_81 (gs_17 hG) (show (17 : Nat) ∉ ([16, 40, 41, 42, 43] : List Nat) by decide) fb_13
              have fb_83 : f_81 (g 44) = .inl (cI, 300, .inl ch9) := FR_at hF_81 (gs_44 hG) (show (44 : Nat) ∉ ([16, 40, 41, 42, 43] : List Nat) by decide) fb_14
              have fb_84 : f_81 (g 45) = .inl (cI, 300, .inl cl9) := FR_at hF_81 (gs_45 hG) (show (45 : Nat) ∉ ([16, 40, 41, 42, 43] : List Nat) by decide) fb_15
              have fb_85 : f_81 (g 10) = .inr (10, [.int (nI jn), .ref (g 11), .ref (g 12), .ref (g 13), .ref (g 15), .ref (g 16), .ref (g 17), .ref (g 18)]) := FR_at hF_81 (gs_10 hG) (show (10 : Nat) ∉ ([16, 40, 41, 42, 43] : List Nat) by decide) fb_16
              have fb_86 : f_81 (g 12) = .inr (0, [.ref (g 20), .ref (g 21), .int tm_3, .int lk_3]) := FR_at hF_81 (gs_12 hG) (show (12 : Nat) ∉ ([16, 40, 41, 42, 43] : List Nat) by decide) fb_17
              have fb_87 : f_81 r_5 = .inr (5, [.int (nI jn), .int (nI (2 * jn)), .ref p_9, .int len_10]) := FR_at hF_81 s_9 (show (0 : Nat) ∉ ([16, 40, 41, 42, 43] : List Nat) by decide) fb_18
              have fb_88 : f_81 p_9 = .inl (cI, n_9, .inl c_11) := FR_at hF_81 sp_10 (show (1 : Nat) ∉ ([16, 40, 41, 42, 43] : List Nat) by decide) fb_19
              exact join27 r_81 f_81 _ _ _ hI hF (by first | assumption | omega | (subst hj1; omega)) (⟨fb_82, fb_83, fb_84⟩) (by
                refine ⟨v4_81, hf_81 _ (List.mem_cons_of_mem _ (List.mem_cons_of_mem _ (List.mem_cons_of_mem _ (List.mem_cons_of_mem _ (List.mem_cons_self ..))))), ?_⟩
                have e9 : b_81 = M0 := nI_ij hb_81 hM2 (eb_81.symm.trans hM0)
                rw [e9] at hw_81
                rcases hw_81 with ⟨h8, h9⟩ | ⟨hs9, h8, h7, h6, h5⟩
                · have h9 : r_81 = -1 := h9
                  exact Or.inl ⟨by omega, by rw [h9]; decide, a_81, ha_81, ea_81, h8⟩
                · have h6 : r_81 = nI hs9.length := h6
                  exact Or.inr ⟨hs9, Or.inr ⟨by omega, a_81, ha_81, ea_81, h8⟩, by rw [h6, nI_toInt (by subst hj1; omega)], h7, h5⟩) (by first | assumption | omega | (subst hj1; omega)) hP hD hS (lv_sub hl [2, 3, 4, 1, 0] rfl)
            · have hq_81 : ∀ q ∈ ([(g 16, .inr (9, [.ref (g 40), .ref (g 41), .ref (g 42), .ref (g 43)]))] : va_W), q.1 ∈ L ∧ f_12 q.1 = q.2 := List.forall_mem_cons.mpr ⟨⟨(gm_16 hG), fg_76⟩, fun _ h9 => absurd h9 (List.not_mem_nil)⟩
              have hPc := p_list hP hq_81
              have hDc : va_D (fun _ => True) ([(g 16, .inr (9, [.ref (g 40), .ref (g 41), .ref (g 42), .ref (g 43)]))] : va_W) := d_list (show (([(g 16, .inr (9, [.ref (g 40), .ref (g 41), .ref (g 42), .ref (g 43)]))] : va_W).map Prod.fst).Nodup from sg_nd hG [16] (by decide) (by decide))
              refine call_sub (L := L) (f := f_12) (va_runV (As := [.int st9, .int r_26]) (rest := []) ⟨hx, hb, hml, hown, hts⟩ (c_find_out l D cI cR cM _ st9 r_26 hin_81 (g 16) (g 40) (g 41) (g 42) (g 43)) (cwV 2 hts gX10_add_X9_find rfl rfl rfl (by decide +kernel) ⟨Nat.le_of_ble_eq_true rfl, Nat.le_of_ble_eq_true rfl⟩) (pre_V hK hPc hDc 0 9 rfl rfl) rfl rfl hl.1 rfl (lv_room (Nat.le_of_ble_eq_true rfl)) dX10_add_64 ⟨Nat.le_of_ble_eq_true rfl, Nat.le_of_ble_eq_true rfl⟩) hP hD hS hA (fun q hq => (hq_81 q hq).1) (fun _ => rfl) (fun u_81 f_81 H locs hw_81 hf_81 ho_81 hP hD hS => ?_)
              have hF_81 : FR S [16, 40, 41, 42, 43] f_12 f_81 := fun b hb9 => ho_81 b (fun h9 => hb9 (sg_in hG h9 (ks := [16]) (by decide) (by decide)))
              have hI := IN_at (ks := [16]) hI ho_81 (List.forall_mem_cons.mpr ⟨ok_at (gs_16 hG) (hf_81 _ (List.mem_cons_self ..)) mk_16, fun _ h9 => absurd h9 (List.not_mem_nil)⟩)
              have hF := FR_tr hF hF_81 (by decide)
              have hFX := FX_trR hFX hF_81 (by decide) (by decide)
              have hP : va_P D vwCl (va_pl L f_81) H := hP
              have hD : va_D A (va_pl L f_81) := hD
              have fb_89 : f_81 (g 17) = .inr (6, [.ref (g 44), .ref (g 45), .int ln9, .int st9]) := FR_at hF_81 (gs_17 hG) (show (17 : Nat) ∉ ([16, 40, 41, 42, 43] : List Nat) by decide) fb_13
              have fb_90 : f_81 (g 44) = .inl (cI, 300, .inl ch9) := FR_at hF_81 (gs_44 hG) (show (44 : Nat) ∉ ([16, 40, 41, 42, 43] : List Nat) by decide) fb_14
              have fb_91 : f_81 (g 45) = .inl (cI, 300, .inl cl9) := FR_at hF_81 (gs_45 hG) (show (45 : Nat) ∉ ([16, 40, 41, 42, 43] : List Nat) by decide) fb_15
              have fb_92 : f_81 (g 10) = .inr (10, [.int (nI jn), .ref (g 11), .ref (g 12), .ref (g 13), .ref (g 15), .ref (g 16), .ref (g 17), .ref (g 18)]) := FR_at hF_81 (gs_10 hG) (show (10 : Nat) ∉ ([16, 40, 41, 42, 43] : List Nat) by decide) fb_16
              have fb_93 : f_81 (g 12) = .inr (0, [.ref (g 20), .ref (g 21), .int tm_3, .int lk_3]) := FR_at hF_81 (gs_12 hG) (show (12 : Nat) ∉ ([16, 40, 41, 42, 43] : List Nat) by decide) fb_17
              have fb_94 : f_81 r_5 = .inr (5, [.int (nI jn), .int (nI (2 * jn)), .ref p_9, .int len_10]) := FR_at hF_81 s_9 (show (0 : Nat) ∉ ([16, 40, 41, 42, 43] : List Nat) by decide) fb_18
              have fb_95 : f_81 p_9 = .inl (cI, n_9, .inl c_11) := FR_at hF_81 sp_10 (show (1 : Nat) ∉ ([16, 40, 41, 42, 43] : List Nat) by decide) fb_19
              have hz_96 : (-1 : Int32).toInt = (-1) := by decide
              exact join27 (-1 : Int32) f_81 _ _ _ hI hF (by first | assumption | omega | (subst hj1; omega)) (⟨fb_89, fb_90, fb_91⟩) (by
                exfalso
                obtain ⟨a9, h8, h9⟩ := hst (by subst hj1; omega)
                exact hin_81 ⟨a9, M0, h8, hM2, h9, hM0⟩) (by first | assumption | omega | (subst hj1; omega)) hP hD hS (lv_sub hl [2, 3, 4, 1, 0] rfl)
          · refine lv_iconst (v := 0) hx hb dX10_add_47 (by decide) ?_
            refine lv_goto (tgt := 67) hx hb dX10_add_48 (by decide) ?_
            obtain ⟨c_97, fg_97⟩ := op_43 hI (gm_43 hG) (gs_43 hG)
            have hz_98 : (0 : Int32).toInt = 0 := by decide
            exact join27 (0 : Int32) f_12 _ _ _ hI hF (by first | assumption | omega | (subst hj1; omega)) (⟨fb_13, fb_14, fb_15⟩) (⟨_, fg_97, Or.inr ⟨[], Or.inl ⟨by omega, rfl⟩, rfl, by decide, fun j9 h9 => absurd h9 (Nat.not_lt_zero _)⟩⟩) (by first | assumption | omega | (subst hj1; omega)) hP hD hS (lv_sub hl [2, 3, 4, 1, 0] rfl)
        · refine lv_iconst (v := (-1)) hx hb dX10_add_28 (by decide) ?_
          have hz_99 : (-1 : Int32).toInt = (-1) := by decide
          exact g_iret ((-1 : Int32), f_12) hx hb hr hlocks hS rfl (⟨hI, hF, show ∃ (ln1 st1 : Int32) (c1 c2 : Nat → Int32), ShX cI g f_12 ln1 st1 c1 c2 ∧ AddS (Ev lk9 x.toInt) x.toInt y.toInt ln9.toInt st9 ch9 cl9 (-1 : Int32).toInt ln1.toInt st1 c1 c2 from (⟨ln9, st9, ch9, cl9, ⟨fb_13, fb_14, fb_15⟩, Or.inr ⟨Or.inl (fun q8 => by have h8 := q8.2.2.2.2; omega), rfl, rfl, rfl, rfl, rfl⟩⟩), show CLS cI cR jn g lv gr L S f_12 T9 lk9 Ev cb n9 from (CLS_fr hcl hG hF (by decide)), show FX S (fun _ => False) [16, 17, 35, 40, 41, 42, 43, 44, 45] f f_12 from (by first | assumption | omega | (subst hj1; omega))⟩) hP hD hQ (Nat.le_of_ble_eq_true rfl) (Nat.le_of_ble_eq_true rfl) dX10_add_29
