theorem LabI_v {w : Int → Int} {N : Int} {s : Int → Int} {T : Int} {L L1 : Int → Int} {cnt u : Int} (h : LabI w N s T L cnt L1 u) : L1 u = -1 ∨ L1 u = cnt := by
  have h1 := h.2.2.1
  rcases h.1 u h1.1.1 h1.1.2.1 with q | q
  · rw [q]; exact Or.inl h1.2.1
  · exact Or.inr q.2.1
theorem LabP_k {w : Int → Int} {N : Int} {s : Int → Int} {T : Int} {L : Int → Int} {cnt : Int} (h : LabP w N s T L cnt) (hT : 0 ≤ T) : cnt ≤ T ∧ 0 ≤ cnt := by
  obtain ⟨b0, b1, b2, b3, b4, fc, b5⟩ := h
  refine ⟨?_, b0⟩
  have key : ∀ m : Nat, (m : Int) < cnt → (m : Int) ≤ fc m := by
    intro m
    induction m with
    | zero => intro hm; exact (b5 0 (by omega) (by omega)).1.1
    | succ m ih =>
      intro hm
      have h1 := ih (by omega)
      have h2 := (b5 ((m + 1 : Nat) : Int) (by omega) hm).2.2.2.2 m (by omega) (by omega)
      omega
  by_cases e : cnt = 0
  · omega
  · have h1 := key (cnt - 1).toNat (by omega)
    have h2 := (b5 (cnt - 1) (by omega) (by omega)).2.1
    rw [show (((cnt - 1).toNat : Nat) : Int) = cnt - 1 by omega] at h1
    omega
set_option maxRecDepth 100000 in
set_option maxHeartbeats 4000000 in
theorem t_X1_followm (l : Launch) (D : va_G) (cI cR cM : ClassId) (sz : Nat) {jn : Nat} {g : Nat → Nat} {L : List Nat} {S : Sg} {f : Nat → va_E} {kc : Int32} {b b_p b_n : Nat} {b_l : Int32} {b_c : Nat → Int32} {x : Int32} {w so La : Int → Int} (hj : 1 ≤ jn ∧ jn ≤ 3) (hG : SG g L S) (hI : IN jn cI cR cM g L S f) (f_cat : f (g 15) = .inr (1, [.ref (g 35), .ref (g 27), .ref (g 36), .ref (g 37), .ref (g 38), .ref (g 39), .int kc, va_rf (some b)])) (m_b : b ∈ L) (s_b : S b = (0, b_p, b_n)) (f_b : f b = .inr (5, [.int (nI jn), .int (nI (2 * jn)), .ref b_p, .int b_l])) (f_b_p : f b_p = .inl (cI, b_n, .inl b_c)) (hj1 : jn = 1) (hRC : RC b_c w b_l.toInt) (hTx : Th w (2 * b_l.toInt) x.toInt) (hLx : La x.toInt = -1) (hB9 : Bj w (2 * b_l.toInt) so) (hLP : LabP w (2 * b_l.toInt) so x.toInt La kc.toInt) (hsc : Arf cI f (g 27) so (2 * b_l.toInt)) (hcy : Arf cI f (g 36) La (2 * b_l.toInt)) (hl24 : b_l.toInt ≤ 24) : Met l yX1_follow wsX1_follow ({ frames := 1, cells := 0, slots := 0, locals := 21 }) (P0 D cI cR cM [.ref (g 15), .int x] sz (va_pl L f)) (QG (S := Nat → va_E) (fun u => none) (fun u => va_pl L u) (fun u => IN jn cI cR cM g L S u ∧ FR S [15, 36, 37, 38, 39] f u ∧ (∃ k9 : Int32, u (g 15) = .inr (1, [.ref (g 35), .ref (g 27), .ref (g 36), .ref (g 37), .ref (g 38), .ref (g 39), .int k9, va_rf (some b)]) ∧ k9.toInt = kc.toInt + 1) ∧ (∃ L1 : Int → Int, Arf cI u (g 36) L1 (2 * b_l.toInt) ∧ LabP w (2 * b_l.toInt) so (x.toInt + 1) L1 (kc.toInt + 1)) ∧ (FX S (fun _ => False) [15, 36, 37, 38, 39] f u)) D (va_A (va_pl L f) sz)) 0 0 (va_A (va_pl L f) sz) := by
  refine go (cc := cX1_follow) (maxL := 4) (ret := none) (by decide +kernel) rfl (Nat.le_of_ble_eq_true rfl) ?_
  intro p e s m below meth c ls args Q hQ hsz hx hb hr hml hts hown hlocks hnm hP hK hD hl
  subst hsz
  have hD := hD.self (sz := s.heap.size)
  generalize hAe : va_A (va_pl L f) s.heap.size = A at hD hQ
  have hA : ∀ q, s.heap.size ≤ q → A q := fun q h => by rw [← hAe]; exact Or.inr h
  have hS : va_S A s.heap s.heap [] := va_S.rf
  have hFX : FX S (fun _ => False) [15, 36, 37, 38, 39] f f := FX_rf
  have hF : FR S [15, 36, 37, 38, 39] f f := FR_rf
  have hl : lv_has ls 4 [(0, .ref (g 15)), (1, .int x)] := hl
  obtain ⟨v1_cat, v2_cat, v3_cat⟩ := iv_15 hI (gm_15 hG) (gs_15 hG) f_cat
  obtain ⟨v1_b, v2_b, v3_b, m_b_p, s_b_p⟩ := iv_0 hI m_b s_b f_b
  obtain ⟨w1_b, w2_b, w3_b, w4_b, w5_b⟩ := lenw hj v1_b v2_b v3_b
  have k_b := iv_1 hI m_b_p s_b_p f_b_p
  have hTx0 := hTx
  unfold Th at hTx0
  have hkk := LabP_k hLP (by subst hj1; omega)
  obtain ⟨c_1, fg_1⟩ := op_36 hI (gm_36 hG) (gs_36 hG)
  have f36_0 := fg_1
  refine lv_aload_n hx hb dX1_follow_0 rfl (lv_at hl 0 rfl) ?_
  refine t_get (D := D) (L := L) (f := f) (ci := 1) (v := .ref (g 37)) (C := RX1) (T := TX1) (N := 8) hx hb hts (by decide +kernel) hown hK.1 hP (gm_15 hG) f_cat rfl 3 (by decide) (hts (.fieldLink RX1 21 "JugglingHall$Catches" "firstCell" "[I") (by decide +kernel)) (fun _ h9 => h9) rfl dX1_follow_1 ?_
  refine lv_aload_n hx hb dX1_follow_4 rfl (lv_at hl 0 rfl) ?_
  refine t_get (D := D) (L := L) (f := f) (ci := 1) (v := .int kc) (C := RX1) (T := TX1) (N := 8) hx hb hts (by decide +kernel) hown hK.1 hP (gm_15 hG) f_cat rfl 6 (by decide) (hts (.fieldLink RX1 64 "JugglingHall$Catches" "count" "I") (by decide +kernel)) (fun _ h9 => h9) rfl dX1_follow_5 ?_
  refine lv_iload_n hx hb dX1_follow_8 rfl (lv_at hl 1 rfl) ?_
  obtain ⟨c_2, fg_2⟩ := op_37 hI (gm_37 hG) (gs_37 hG)
  refine t_iast (L := L) (f := f) (h := c_2) (u := kc.toInt) hx hb hK.1 hP hD hS (gm_37 hG) 0 fg_2 rfl dX1_follow_9 (rfl) (by subst hj1; omega) (fun g_3 f_3 H locs eg_3 e9_3 o_3 hP hD hS => ?_)
  have fa_3 : f_3 (g 37) = .inl (cI, 144, .inl g_3) := e9_3
  have hI := IN_set (e := .inl (cI, 144, .inl g_3)) hI (gs_37 hG) (mk_37) fa_3 o_3
  have hF := FR_set hF (gs_37 hG) (show (37 : Nat) ∈ ([15, 36, 37, 38, 39] : List Nat) by decide) o_3
  have hFX := FX_setT hFX (gs_37 hG) (show (37 : Nat) ∈ ([15, 36, 37, 38, 39] : List Nat) by decide) o_3
  have fb_4 : f_3 (g 15) = .inr (1, [.ref (g 35), .ref (g 27), .ref (g 36), .ref (g 37), .ref (g 38), .ref (g 39), .int kc, va_rf (some b)]) := f_at o_3 (S_ne (gs_15 hG) (gs_37 hG) (show (15 : Nat) ≠ 37 by decide)) f_cat
  have fb_5 : f_3 b = .inr (5, [.int (nI jn), .int (nI (2 * jn)), .ref b_p, .int b_l]) := f_at o_3 (S_ne s_b (gs_37 hG) (show (0 : Nat) ≠ 37 by decide)) f_b
  have fb_6 : f_3 b_p = .inl (cI, b_n, .inl b_c) := f_at o_3 (S_ne s_b_p (gs_37 hG) (show (1 : Nat) ≠ 37 by decide)) f_b_p
  have fb_7 : f_3 (g 36) = .inl (cI, 144, .inl c_1) := f_at o_3 (S_ne (gs_36 hG) (gs_37 hG) (show (36 : Nat) ≠ 37 by decide)) fg_1
  refine lv_aload_n hx hb dX1_follow_10 rfl (lv_at hl 0 rfl) ?_
  refine t_get (D := D) (L := L) (f := f_3) (ci := 1) (v := .ref (g 38)) (C := RX1) (T := TX1) (N := 8) hx hb hts (by decide +kernel) hown hK.1 hP (gm_15 hG) fb_4 rfl 4 (by decide) (hts (.fieldLink RX1 24 "JugglingHall$Catches" "size" "[I") (by decide +kernel)) (fun _ h9 => h9) rfl dX1_follow_11 ?_
  refine lv_aload_n hx hb dX1_follow_14 rfl (lv_at hl 0 rfl) ?_
  refine t_get (D := D) (L := L) (f := f_3) (ci := 1) (v := .int kc) (C := RX1) (T := TX1) (N := 8) hx hb hts (by decide +kernel) hown hK.1 hP (gm_15 hG) fb_4 rfl 6 (by decide) (hts (.fieldLink RX1 64 "JugglingHall$Catches" "count" "I") (by decide +kernel)) (fun _ h9 => h9) rfl dX1_follow_15 ?_
  refine lv_iconst (v := 0) hx hb dX1_follow_18 (by decide) ?_
  obtain ⟨c_8, fg_8⟩ := op_38 hI (gm_38 hG) (gs_38 hG)
  have hz_10 : (0 : Int32).toInt = 0 := by decide
  refine t_iast (L := L) (f := f_3) (h := c_8) (u := kc.toInt) hx hb hK.1 hP hD hS (gm_38 hG) 0 fg_8 rfl dX1_follow_19 (rfl) (by subst hj1; omega) (fun g_9 f_9 H locs eg_9 e9_9 o_9 hP hD hS => ?_)
  have fa_9 : f_9 (g 38) = .inl (cI, 144, .inl g_9) := e9_9
  have hI := IN_set (e := .inl (cI, 144, .inl g_9)) hI (gs_38 hG) (mk_38) fa_9 o_9
  have hF := FR_set hF (gs_38 hG) (show (38 : Nat) ∈ ([15, 36, 37, 38, 39] : List Nat) by decide) o_9
  have hFX := FX_setT hFX (gs_38 hG) (show (38 : Nat) ∈ ([15, 36, 37, 38, 39] : List Nat) by decide) o_9
  have fb_11 : f_9 (g 15) = .inr (1, [.ref (g 35), .ref (g 27), .ref (g 36), .ref (g 37), .ref (g 38), .ref (g 39), .int kc, va_rf (some b)]) := f_at o_9 (S_ne (gs_15 hG) (gs_38 hG) (show (15 : Nat) ≠ 38 by decide)) fb_4
  have fb_12 : f_9 b = .inr (5, [.int (nI jn), .int (nI (2 * jn)), .ref b_p, .int b_l]) := f_at o_9 (S_ne s_b (gs_38 hG) (show (0 : Nat) ≠ 38 by decide)) fb_5
  have fb_13 : f_9 b_p = .inl (cI, b_n, .inl b_c) := f_at o_9 (S_ne s_b_p (gs_38 hG) (show (1 : Nat) ≠ 38 by decide)) fb_6
  have fb_14 : f_9 (g 36) = .inl (cI, 144, .inl c_1) := f_at o_9 (S_ne (gs_36 hG) (gs_38 hG) (show (36 : Nat) ≠ 38 by decide)) fb_7
  have fb_15 : f_9 (g 37) = .inl (cI, 144, .inl g_3) := f_at o_9 (S_ne (gs_37 hG) (gs_38 hG) (show (37 : Nat) ≠ 38 by decide)) fa_3
  refine lv_aload_n hx hb dX1_follow_20 rfl (lv_at hl 0 rfl) ?_
  refine t_get (D := D) (L := L) (f := f_9) (ci := 1) (v := .ref (g 39)) (C := RX1) (T := TX1) (N := 8) hx hb hts (by decide +kernel) hown hK.1 hP (gm_15 hG) fb_11 rfl 5 (by decide) (hts (.fieldLink RX1 27 "JugglingHall$Catches" "period" "[I") (by decide +kernel)) (fun _ h9 => h9) rfl dX1_follow_21 ?_
  refine lv_aload_n hx hb dX1_follow_24 rfl (lv_at hl 0 rfl) ?_
  refine t_get (D := D) (L := L) (f := f_9) (ci := 1) (v := .int kc) (C := RX1) (T := TX1) (N := 8) hx hb hts (by decide +kernel) hown hK.1 hP (gm_15 hG) fb_11 rfl 6 (by decide) (hts (.fieldLink RX1 64 "JugglingHall$Catches" "count" "I") (by decide +kernel)) (fun _ h9 => h9) rfl dX1_follow_25 ?_
  refine lv_iconst (v := 0) hx hb dX1_follow_28 (by decide) ?_
  obtain ⟨c_16, fg_16⟩ := op_39 hI (gm_39 hG) (gs_39 hG)
  have hz_18 : (0 : Int32).toInt = 0 := by decide
  refine t_iast (L := L) (f := f_9) (h := c_16) (u := kc.toInt) hx hb hK.1 hP hD hS (gm_39 hG) 0 fg_16 rfl dX1_follow_29 (rfl) (by subst hj1; omega) (fun g_17 f_17 H locs eg_17 e9_17 o_17 hP hD hS => ?_)
  have fa_17 : f_17 (g 39) = .inl (cI, 144, .inl g_17) := e9_17
  have hI := IN_set (e := .inl (cI, 144, .inl g_17)) hI (gs_39 hG) (mk_39) fa_17 o_17
  have hF := FR_set hF (gs_39 hG) (show (39 : Nat) ∈ ([15, 36, 37, 38, 39] : List Nat) by decide) o_17
  have hFX := FX_setT hFX (gs_39 hG) (show (39 : Nat) ∈ ([15, 36, 37, 38, 39] : List Nat) by decide) o_17
  have fb_19 : f_17 (g 15) = .inr (1, [.ref (g 35), .ref (g 27), .ref (g 36), .ref (g 37), .ref (g 38), .ref (g 39), .int kc, va_rf (some b)]) := f_at o_17 (S_ne (gs_15 hG) (gs_39 hG) (show (15 : Nat) ≠ 39 by decide)) fb_11
  have fb_20 : f_17 b = .inr (5, [.int (nI jn), .int (nI (2 * jn)), .ref b_p, .int b_l]) := f_at o_17 (S_ne s_b (gs_39 hG) (show (0 : Nat) ≠ 39 by decide)) fb_12
  have fb_21 : f_17 b_p = .inl (cI, b_n, .inl b_c) := f_at o_17 (S_ne s_b_p (gs_39 hG) (show (1 : Nat) ≠ 39 by decide)) fb_13
  have fb_22 : f_17 (g 36) = .inl (cI, 144, .inl c_1) := f_at o_17 (S_ne (gs_36 hG) (gs_39 hG) (show (36 : Nat) ≠ 39 by decide)) fb_14
  have fb_23 : f_17 (g 37) = .inl (cI, 144, .inl g_3) := f_at o_17 (S_ne (gs_37 hG) (gs_39 hG) (show (37 : Nat) ≠ 39 by decide)) fb_15
  have fb_24 : f_17 (g 38) = .inl (cI, 144, .inl g_9) := f_at o_17 (S_ne (gs_38 hG) (gs_39 hG) (show (38 : Nat) ≠ 39 by decide)) fa_9
  refine lv_iload_n hx hb dX1_follow_30 rfl (lv_at hl 1 rfl) ?_
  refine lv_istore_n (lv' := [(2, .int x), (0, .ref (g 15)), (1, .int x)]) hx hb dX1_follow_31 rfl hl (by decide) rfl (fun ls hl => ?_)
  refine lv_iconst (v := 0) hx hb dX1_follow_32 (by decide) ?_
  refine lv_istore_n (lv' := [(3, .int 0), (2, .int x), (0, .ref (g 15)), (1, .int x)]) hx hb dX1_follow_33 rfl hl (by decide) rfl (fun ls hl => ?_)
  have loop34 : ∀ (ddloop34 : Nat) (ce : Int32) (ii : Int32) (k2 : Int32) (f_25 : Nat → va_E) (H : Heap) (locs : List Loc) (ls : Array Slot), (200 - ii.toInt).toNat < ddloop34 → IN jn cI cR cM g L S f_25 → FR S [15, 36, 37, 38, 39] f f_25 → (f_25 (g 15) = .inr (1, [.ref (g 35), .ref (g 27), .ref (g 36), .ref (g 37), .ref (g 38), .ref (g 39), .int k2, va_rf (some b)])) → (0 ≤ ii.toInt ∧ ii.toInt ≤ 144) → (k2.toInt = kc.toInt) → (Hd (∃ L1 : Int → Int, Arf cI f_25 (g 36) L1 (2 * b_l.toInt) ∧ LabI w (2 * b_l.toInt) so x.toInt La kc.toInt L1 ce.toInt ∧ ii.toInt ≤ clb L1 (2 * b_l.toInt).toNat)) → (FX S (fun _ => False) [15, 36, 37, 38, 39] f f_25) → va_P D vwCl (va_pl L f_25) H → va_D A (va_pl L f_25) → va_S A s.heap H locs → lv_has ls 4 [(0, .ref (g 15)), (1, .int x), (2, .int ce), (3, .int ii)] → W p l e ({ frames := 1, cells := 0, slots := 0, locals := 21 }) s m args below meth c H locs (0) (0) Q (F0 m 34 ls []) := by
    intro ddloop34
    induction ddloop34 with
    | zero =>
      intro ce ii k2 f_25 H locs ls hdd
      exact absurd hdd (Nat.not_lt_zero _)
    | succ ddloop34 ih34 =>
      intro ce ii k2 f_25 H locs ls hdd hI hF fc_25_g15 hi hk2 hIL hFX hP hD hS hl
      obtain ⟨iv0_26, iv1_26, iv2_26⟩ := iv_15 hI (gm_15 hG) (gs_15 hG) fc_25_g15
      have fb_27 : f_25 b = .inr (5, [.int (nI jn), .int (nI (2 * jn)), .ref b_p, .int b_l]) := FR_at hF s_b (show (0 : Nat) ∉ ([15, 36, 37, 38, 39] : List Nat) by decide) f_b
      have fb_28 : f_25 b_p = .inl (cI, b_n, .inl b_c) := FR_at hF s_b_p (show (1 : Nat) ∉ ([15, 36, 37, 38, 39] : List Nat) by decide) f_b_p
      obtain ⟨L1, y1, y2, y3⟩ := hIL
      have hu9 := y2.2.2.1
      have hu8 := hu9.1
      unfold Th at hu8
      have hsl : Arf cI f_25 (g 27) so (2 * b_l.toInt) := Arf_fr hsc (gs_27 hG) hF (by decide)
      have hcb := clb_b L1 (2 * b_l.toInt).toNat
      refine lv_iload_n hx hb dX1_follow_34 rfl (lv_at hl 3 rfl) ?_
      refine lv_sipush (v := 144) hx hb dX1_follow_35 (by decide) ?_
      refine a_icmp_ge (u := ii.toInt) (v := 144) (tgt := 112) hx hb dX1_follow_38 (by decide) (rfl) (by decide) (fun c_29 => ?_) (fun c_29 => ?_)
      · refine lv_aload_n hx hb dX1_follow_112 rfl (lv_at hl 0 rfl) ?_
        refine lv_dup hx hb dX1_follow_113 rfl ?_
        refine t_get (D := D) (L := L) (f := f_25) (ci := 1) (v := .int k2) (C := RX1) (T := TX1) (N := 8) hx hb hts (by decide +kernel) hown hK.1 hP (gm_15 hG) fc_25_g15 rfl 6 (by decide) (hts (.fieldLink RX1 64 "JugglingHall$Catches" "count" "I") (by decide +kernel)) (fun _ h9 => h9) rfl dX1_follow_114 ?_
        refine lv_iconst (v := 1) hx hb dX1_follow_117 (by decide) ?_
        refine a_iadd (u := k2.toInt) (v := 1) hx hb dX1_follow_118 (rfl) (by decide) (by subst hj1; omega) (fun z_30 e_30 => ?_)
        refine t_put (D := D) (L := L) (f := f_25) (ci := 1) (v := .int z_30) (ty := .int) (C := RX1) (T := TX1) (N := 8) hx hb hts (by decide +kernel) tyX1 tyX1_ok nmX1 hown hK.1 hP hD hS (gm_15 hG) fc_25_g15 rfl 6 (by decide) (hts (.fieldLink RX1 64 "JugglingHall$Catches" "count" "I") (by decide +kernel)) (fun _ h9 => h9) rfl (by decide +kernel) rfl rfl (Nat.le_of_ble_eq_true rfl) dX1_follow_119 (fun f_31 H locs e9_31 o_31 hP hD hS => ?_)
        have fa_31 : f_31 (g 15) = .inr (1, [.ref (g 35), .ref (g 27), .ref (g 36), .ref (g 37), .ref (g 38), .ref (g 39), .int z_30, va_rf (some b)]) := e9_31
        have hI := IN_set (e := .inr (1, [.ref (g 35), .ref (g 27), .ref (g 36), .ref (g 37), .ref (g 38), .ref (g 39), .int z_30, va_rf (some b)])) hI (gs_15 hG) (mk_15 (by first | assumption | omega | (subst hj1; omega)) (by first | assumption | omega | (subst hj1; omega)) (fun r9 h9 => by cases h9; exact ⟨_, _, m_b, s_b⟩)) fa_31 o_31
        have hF := FR_set hF (gs_15 hG) (show (15 : Nat) ∈ ([15, 36, 37, 38, 39] : List Nat) by decide) o_31
        have hFX := FX_setT hFX (gs_15 hG) (show (15 : Nat) ∈ ([15, 36, 37, 38, 39] : List Nat) by decide) o_31
        have fb_32 : f_31 b = .inr (5, [.int (nI jn), .int (nI (2 * jn)), .ref b_p, .int b_l]) := f_at o_31 (S_ne s_b (gs_15 hG) (show (0 : Nat) ≠ 15 by decide)) fb_27
        have fb_33 : f_31 b_p = .inl (cI, b_n, .inl b_c) := f_at o_31 (S_ne s_b_p (gs_15 hG) (show (1 : Nat) ≠ 15 by decide)) fb_28
        exact g_vret f_31 hx hb hr hlocks hS rfl (⟨hI, hF, show ∃ k9 : Int32, f_31 (g 15) = .inr (1, [.ref (g 35), .ref (g 27), .ref (g 36), .ref (g 37), .ref (g 38), .ref (g 39), .int k9, va_rf (some b)]) ∧ k9.toInt = kc.toInt + 1 from (⟨z_30, fa_31, by omega⟩), show ∃ L1 : Int → Int, Arf cI f_31 (g 36) L1 (2 * b_l.toInt) ∧ LabP w (2 * b_l.toInt) so (x.toInt + 1) L1 (kc.toInt + 1) from (by exfalso; omega), show FX S (fun _ => False) [15, 36, 37, 38, 39] f f_31 from (by first | assumption | omega | (subst hj1; omega))⟩) hP hD hQ (Nat.le_of_ble_eq_true rfl) (Nat.le_of_ble_eq_true rfl) dX1_follow_122
      · refine lv_iload_n hx hb dX1_follow_41 rfl (lv_at hl 2 rfl) ?_
        refine lv_iconst (v := (-1)) hx hb dX1_follow_42 (by decide) ?_
        refine a_icmp_eq (u := ce.toInt) (v := (-1)) (tgt := 112) hx hb dX1_follow_43 (by decide) (rfl) (by decide) (fun c_34 => ?_) (fun c_34 => ?_)
        · refine lv_aload_n hx hb dX1_follow_112 rfl (lv_at hl 0 rfl) ?_
          refine lv_dup hx hb dX1_follow_113 rfl ?_
          refine t_get (D := D) (L := L) (f := f_25) (ci := 1) (v := .int k2) (C := RX1) (T := TX1) (N := 8) hx hb hts (by decide +kernel) hown hK.1 hP (gm_15 hG) fc_25_g15 rfl 6 (by decide) (hts (.fieldLink RX1 64 "JugglingHall$Catches" "count" "I") (by decide +kernel)) (fun _ h9 => h9) rfl dX1_follow_114 ?_
          refine lv_iconst (v := 1) hx hb dX1_follow_117 (by decide) ?_
          refine a_iadd (u := k2.toInt) (v := 1) hx hb dX1_follow_118 (rfl) (by decide) (by subst hj1; omega) (fun z_35 e_35 => ?_)
          refine t_put (D := D) (L := L) (f := f_25) (ci := 1) (v := .int z_35) (ty := .int) (C := RX1) (T := TX1) (N := 8) hx hb hts (by decide +kernel) tyX1 tyX1_ok nmX1 hown hK.1 hP hD hS (gm_15 hG) fc_25_g15 rfl 6 (by decide) (hts (.fieldLink RX1 64 "JugglingHall$Catches" "count" "I") (by decide +kernel)) (fun _ h9 => h9) rfl (by decide +kernel) rfl rfl (Nat.le_of_ble_eq_true rfl) dX1_follow_119 (fun f_36 H locs e9_36 o_36 hP hD hS => ?_)
          have fa_36 : f_36 (g 15) = .inr (1, [.ref (g 35), .ref (g 27), .ref (g 36), .ref (g 37), .ref (g 38), .ref (g 39), .int z_35, va_rf (some b)]) := e9_36
          have hI := IN_set (e := .inr (1, [.ref (g 35), .ref (g 27), .ref (g 36), .ref (g 37), .ref (g 38), .ref (g 39), .int z_35, va_rf (some b)])) hI (gs_15 hG) (mk_15 (by first | assumption | omega | (subst hj1; omega)) (by first | assumption | omega | (subst hj1; omega)) (fun r9 h9 => by cases h9; exact ⟨_, _, m_b, s_b⟩)) fa_36 o_36
          have hF := FR_set hF (gs_15 hG) (show (15 : Nat) ∈ ([15, 36, 37, 38, 39] : List Nat) by decide) o_36
          have hFX := FX_setT hFX (gs_15 hG) (show (15 : Nat) ∈ ([15, 36, 37, 38, 39] : List Nat) by decide) o_36
          have fb_37 : f_36 b = .inr (5, [.int (nI jn), .int (nI (2 * jn)), .ref b_p, .int b_l]) := f_at o_36 (S_ne s_b (gs_15 hG) (show (0 : Nat) ≠ 15 by decide)) fb_27
          have fb_38 : f_36 b_p = .inl (cI, b_n, .inl b_c) := f_at o_36 (S_ne s_b_p (gs_15 hG) (show (1 : Nat) ≠ 15 by decide)) fb_28
          exact g_vret f_36 hx hb hr hlocks hS rfl (⟨hI, hF, show ∃ k9 : Int32, f_36 (g 15) = .inr (1, [.ref (g 35), .ref (g 27), .ref (g 36), .ref (g 37), .ref (g 38), .ref (g 39), .int k9, va_rf (some b)]) ∧ k9.toInt = kc.toInt + 1 from (⟨z_35, fa_36, by omega⟩), show ∃ L1 : Int → Int, Arf cI f_36 (g 36) L1 (2 * b_l.toInt) ∧ LabP w (2 * b_l.toInt) so (x.toInt + 1) L1 (kc.toInt + 1) from (by exfalso; omega), show FX S (fun _ => False) [15, 36, 37, 38, 39] f f_36 from (by first | assumption | omega | (subst hj1; omega))⟩) hP hD hQ (Nat.le_of_ble_eq_true rfl) (Nat.le_of_ble_eq_true rfl) dX1_follow_122
        · refine lv_aload_n hx hb dX1_follow_46 rfl (lv_at hl 0 rfl) ?_
          refine t_get (D := D) (L := L) (f := f_25) (ci := 1) (v := .ref (g 36)) (C := RX1) (T := TX1) (N := 8) hx hb hts (by decide +kernel) hown hK.1 hP (gm_15 hG) fc_25_g15 rfl 2 (by decide) (hts (.fieldLink RX1 18 "JugglingHall$Catches" "cycleAt" "[I") (by decide +kernel)) (fun _ h9 => h9) rfl dX1_follow_47 ?_
          refine lv_iload_n hx hb dX1_follow_50 rfl (lv_at hl 2 rfl) ?_
          obtain ⟨c_39, fg_39⟩ := op_36 hI (gm_36 hG) (gs_36 hG)
          refine t_iald (L := L) (f := f_25) (y := c_39) (u := ce.toInt) hx hb hK.1 hP (gm_36 hG) 0 fg_39 rfl dX1_follow_51 (rfl) (by subst hj1; omega) (fun z_40 q_40 e_40 => ?_)
          have hLc := Arf_at y1 fg_39
          have hv51 : z_40.toInt = L1 ce.toInt := by rw [q_40]; exact hLc _ (by subst hj1; omega) (by subst hj1; omega)
          have hvv := LabI_v y2
          refine lv_iconst (v := (-1)) hx hb dX1_follow_52 (by decide) ?_
          refine a_icmp_ne (u := z_40.toInt) (v := (-1)) (tgt := 112) hx hb dX1_follow_53 (by decide) (rfl) (by decide) (fun c_41 => ?_) (fun c_41 => ?_)
          · refine lv_aload_n hx hb dX1_follow_112 rfl (lv_at hl 0 rfl) ?_
            refine lv_dup hx hb dX1_follow_113 rfl ?_
            refine t_get (D := D) (L := L) (f := f_25) (ci := 1) (v := .int k2) (C := RX1) (T := TX1) (N := 8) hx hb hts (by decide +kernel) hown hK.1 hP (gm_15 hG) fc_25_g15 rfl 6 (by decide) (hts (.fieldLink RX1 64 "JugglingHall$Catches" "count" "I") (by decide +kernel)) (fun _ h9 => h9) rfl dX1_follow_114 ?_
            refine lv_iconst (v := 1) hx hb dX1_follow_117 (by decide) ?_
            refine a_iadd (u := k2.toInt) (v := 1) hx hb dX1_follow_118 (rfl) (by decide) (by subst hj1; omega) (fun z_42 e_42 => ?_)
            refine t_put (D := D) (L := L) (f := f_25) (ci := 1) (v := .int z_42) (ty := .int) (C := RX1) (T := TX1) (N := 8) hx hb hts (by decide +kernel) tyX1 tyX1_ok nmX1 hown hK.1 hP hD hS (gm_15 hG) fc_25_g15 rfl 6 (by decide) (hts (.fieldLink RX1 64 "JugglingHall$Catches" "count" "I") (by decide +kernel)) (fun _ h9 => h9) rfl (by decide +kernel) rfl rfl (Nat.le_of_ble_eq_true rfl) dX1_follow_119 (fun f_43 H locs e9_43 o_43 hP hD hS => ?_)
            have fa_43 : f_43 (g 15) = .inr (1, [.ref (g 35), .ref (g 27), .ref (g 36), .ref (g 37), .ref (g 38), .ref (g 39), .int z_42, va_rf (some b)]) := e9_43
            have hI := IN_set (e := .inr (1, [.ref (g 35), .ref (g 27), .ref (g 36), .ref (g 37), .ref (g 38), .ref (g 39), .int z_42, va_rf (some b)])) hI (gs_15 hG) (mk_15 (by first | assumption | omega | (subst hj1; omega)) (by first | assumption | omega | (subst hj1; omega)) (fun r9 h9 => by cases h9; exact ⟨_, _, m_b, s_b⟩)) fa_43 o_43
            have hF := FR_set hF (gs_15 hG) (show (15 : Nat) ∈ ([15, 36, 37, 38, 39] : List Nat) by decide) o_43
            have hFX := FX_setT hFX (gs_15 hG) (show (15 : Nat) ∈ ([15, 36, 37, 38, 39] : List Nat) by decide) o_43
            have fb_44 : f_43 b = .inr (5, [.int (nI jn), .int (nI (2 * jn)), .ref b_p, .int b_l]) := f_at o_43 (S_ne s_b (gs_15 hG) (show (0 : Nat) ≠ 15 by decide)) fb_27
            have fb_45 : f_43 b_p = .inl (cI, b_n, .inl b_c) := f_at o_43 (S_ne s_b_p (gs_15 hG) (show (1 : Nat) ≠ 15 by decide)) fb_28
            have fb_46 : f_43 (g 36) = .inl (cI, 144, .inl c_39) := f_at o_43 (S_ne (gs_36 hG) (gs_15 hG) (show (36 : Nat) ≠ 15 by decide)) fg_39
            exact g_vret f_43 hx hb hr hlocks hS rfl (⟨hI, hF, show ∃ k9 : Int32, f_43 (g 15) = .inr (1, [.ref (g 35), .ref (g 27), .ref (g 36), .ref (g 37), .ref (g 38), .ref (g 39), .int k9, va_rf (some b)]) ∧ k9.toInt = kc.toInt + 1 from (⟨z_42, fa_43, by omega⟩), show ∃ L1 : Int → Int, Arf cI f_43 (g 36) L1 (2 * b_l.toInt) ∧ LabP w (2 * b_l.toInt) so (x.toInt + 1) L1 (kc.toInt + 1) from (⟨L1, ⟨_, fb_46, hLc⟩, LabI_e hLP hB9 y2 (by subst hj1; omega) hTx hLx⟩), show FX S (fun _ => False) [15, 36, 37, 38, 39] f f_43 from (by first | assumption | omega | (subst hj1; omega))⟩) hP hD hQ (Nat.le_of_ble_eq_true rfl) (Nat.le_of_ble_eq_true rfl) dX1_follow_122
          · refine lv_aload_n hx hb dX1_follow_56 rfl (lv_at hl 0 rfl) ?_
            refine t_get (D := D) (L := L) (f := f_25) (ci := 1) (v := .ref (g 36)) (C := RX1) (T := TX1) (N := 8) hx hb hts (by decide +kernel) hown hK.1 hP (gm_15 hG) fc_25_g15 rfl 2 (by decide) (hts (.fieldLink RX1 18 "JugglingHall$Catches" "cycleAt" "[I") (by decide +kernel)) (fun _ h9 => h9) rfl dX1_follow_57 ?_
            refine lv_iload_n hx hb dX1_follow_60 rfl (lv_at hl 2 rfl) ?_
            refine lv_aload_n hx hb dX1_follow_61 rfl (lv_at hl 0 rfl) ?_
            refine t_get (D := D) (L := L) (f := f_25) (ci := 1) (v := .int k2) (C := RX1) (T := TX1) (N := 8) hx hb hts (by decide +kernel) hown hK.1 hP (gm_15 hG) fc_25_g15 rfl 6 (by decide) (hts (.fieldLink RX1 64 "JugglingHall$Catches" "count" "I") (by decide +kernel)) (fun _ h9 => h9) rfl dX1_follow_62 ?_
            refine t_iast (L := L) (f := f_25) (h := c_39) (u := ce.toInt) hx hb hK.1 hP hD hS (gm_36 hG) 0 fg_39 rfl dX1_follow_65 (rfl) (by subst hj1; omega) (fun g_47 f_47 H locs eg_47 e9_47 o_47 hP hD hS => ?_)
            have fa_47 : f_47 (g 36) = .inl (cI, 144, .inl g_47) := e9_47
            have hI := IN_set (e := .inl (cI, 144, .inl g_47)) hI (gs_36 hG) (mk_36) fa_47 o_47
            have hF := FR_set hF (gs_36 hG) (show (36 : Nat) ∈ ([15, 36, 37, 38, 39] : List Nat) by decide) o_47
            have hFX := FX_setT hFX (gs_36 hG) (show (36 : Nat) ∈ ([15, 36, 37, 38, 39] : List Nat) by decide) o_47
            have fb_48 : f_47 (g 15) = .inr (1, [.ref (g 35), .ref (g 27), .ref (g 36), .ref (g 37), .ref (g 38), .ref (g 39), .int k2, va_rf (some b)]) := f_at o_47 (S_ne (gs_15 hG) (gs_36 hG) (show (15 : Nat) ≠ 36 by decide)) fc_25_g15
            have fb_49 : f_47 b = .inr (5, [.int (nI jn), .int (nI (2 * jn)), .ref b_p, .int b_l]) := f_at o_47 (S_ne s_b (gs_36 hG) (show (0 : Nat) ≠ 36 by decide)) fb_27
            have fb_50 : f_47 b_p = .inl (cI, b_n, .inl b_c) := f_at o_47 (S_ne s_b_p (gs_36 hG) (show (1 : Nat) ≠ 36 by decide)) fb_28
            refine lv_aload_n hx hb dX1_follow_66 rfl (lv_at hl 0 rfl) ?_
            refine t_get (D := D) (L := L) (f := f_47) (ci := 1) (v := .ref (g 38)) (C := RX1) (T := TX1) (N := 8) hx hb hts (by decide +kernel) hown hK.1 hP (gm_15 hG) fb_48 rfl 4 (by decide) (hts (.fieldLink RX1 24 "JugglingHall$Catches" "size" "[I") (by decide +kernel)) (fun _ h9 => h9) rfl dX1_follow_67 ?_
            refine lv_aload_n hx hb dX1_follow_70 rfl (lv_at hl 0 rfl) ?_
            refine t_get (D := D) (L := L) (f := f_47) (ci := 1) (v := .int k2) (C := RX1) (T := TX1) (N := 8) hx hb hts (by decide +kernel) hown hK.1 hP (gm_15 hG) fb_48 rfl 6 (by decide) (hts (.fieldLink RX1 64 "JugglingHall$Catches" "count" "I") (by decide +kernel)) (fun _ h9 => h9) rfl dX1_follow_71 ?_
            refine lv_dup2_11 hx hb dX1_follow_74 rfl rfl ?_
            obtain ⟨c_51, fg_51⟩ := op_38 hI (gm_38 hG) (gs_38 hG)
            refine t_iald (L := L) (f := f_47) (y := c_51) (u := k2.toInt) hx hb hK.1 hP (gm_38 hG) 0 fg_51 rfl dX1_follow_75 (rfl) (by subst hj1; omega) (fun z_52 q_52 e_52 => ?_)
            refine lv_iconst (v := 1) hx hb dX1_follow_76 (by decide) ?_
            refine lv_iadd hx hb dX1_follow_77 ?_
            refine lv_topi (fun z_53 q_53 => ?_)
            refine t_iast (L := L) (f := f_47) (h := c_51) (u := k2.toInt) hx hb hK.1 hP hD hS (gm_38 hG) 0 fg_51 rfl dX1_follow_78 (rfl) (by subst hj1; omega) (fun g_54 f_54 H locs eg_54 e9_54 o_54 hP hD hS => ?_)
            have fa_54 : f_54 (g 38) = .inl (cI, 144, .inl g_54) := e9_54
            have hI := IN_set (e := .inl (cI, 144, .inl g_54)) hI (gs_38 hG) (mk_38) fa_54 o_54
            have hF := FR_set hF (gs_38 hG) (show (38 : Nat) ∈ ([15, 36, 37, 38, 39] : List Nat) by decide) o_54
            have hFX := FX_setT hFX (gs_38 hG) (show (38 : Nat) ∈ ([15, 36, 37, 38, 39] : List Nat) by decide) o_54
            have fb_55 : f_54 (g 15) = .inr (1, [.ref (g 35), .ref (g 27), .ref (g 36), .ref (g 37), .ref (g 38), .ref (g 39), .int k2, va_rf (some b)]) := f_at o_54 (S_ne (gs_15 hG) (gs_38 hG) (show (15 : Nat) ≠ 38 by decide)) fb_48
            have fb_56 : f_54 b = .inr (5, [.int (nI jn), .int (nI (2 * jn)), .ref b_p, .int b_l]) := f_at o_54 (S_ne s_b (gs_38 hG) (show (0 : Nat) ≠ 38 by decide)) fb_49
            have fb_57 : f_54 b_p = .inl (cI, b_n, .inl b_c) := f_at o_54 (S_ne s_b_p (gs_38 hG) (show (1 : Nat) ≠ 38 by decide)) fb_50
            have fb_58 : f_54 (g 36) = .inl (cI, 144, .inl g_47) := f_at o_54 (S_ne (gs_36 hG) (gs_38 hG) (show (36 : Nat) ≠ 38 by decide)) fa_47
            refine lv_aload_n hx hb dX1_follow_79 rfl (lv_at hl 0 rfl) ?_
            refine t_get (D := D) (L := L) (f := f_54) (ci := 1) (v := .ref (g 39)) (C := RX1) (T := TX1) (N := 8) hx hb hts (by decide +kernel) hown hK.1 hP (gm_15 hG) fb_55 rfl 5 (by decide) (hts (.fieldLink RX1 27 "JugglingHall$Catches" "period" "[I") (by decide +kernel)) (fun _ h9 => h9) rfl dX1_follow_80 ?_
            refine lv_aload_n hx hb dX1_follow_83 rfl (lv_at hl 0 rfl) ?_
            refine t_get (D := D) (L := L) (f := f_54) (ci := 1) (v := .int k2) (C := RX1) (T := TX1) (N := 8) hx hb hts (by decide +kernel) hown hK.1 hP (gm_15 hG) fb_55 rfl 6 (by decide) (hts (.fieldLink RX1 64 "JugglingHall$Catches" "count" "I") (by decide +kernel)) (fun _ h9 => h9) rfl dX1_follow_84 ?_
            refine lv_dup2_11 hx hb dX1_follow_87 rfl rfl ?_
            obtain ⟨c_59, fg_59⟩ := op_39 hI (gm_39 hG) (gs_39 hG)
            refine t_iald (L := L) (f := f_54) (y := c_59) (u := k2.toInt) hx hb hK.1 hP (gm_39 hG) 0 fg_59 rfl dX1_follow_88 (rfl) (by subst hj1; omega) (fun z_60 q_60 e_60 => ?_)
            refine lv_aload_n hx hb dX1_follow_89 rfl (lv_at hl 0 rfl) ?_
            refine t_get (D := D) (L := L) (f := f_54) (ci := 1) (v := .ref b) (C := RX1) (T := TX1) (N := 8) hx hb hts (by decide +kernel) hown hK.1 hP (gm_15 hG) fb_55 rfl 7 (by decide) (hts (.fieldLink RX1 60 "JugglingHall$Catches" "row" "LJugglingHall$Row;") (by decide +kernel)) (fun _ h9 => h9) rfl dX1_follow_90 ?_
            refine lv_iload_n hx hb dX1_follow_93 rfl (lv_at hl 2 rfl) ?_
            refine roP (va_runV (As := [.int ce]) (rest := [.int z_60, .int k2, .ref (g 39)]) ⟨hx, hb, hml, hown, hts⟩ (t_X5_heightm l D cI cR cM _ (w := w)  hj hG hI m_b s_b fb_56 fb_57 (by first | assumption | omega | (subst hj1; omega)) (by subst hj1; omega) (hRC)) (cwV 1 hts gX1_follow_X5_height rfl rfl rfl (by decide +kernel) ⟨Nat.le_of_ble_eq_true rfl, Nat.le_of_ble_eq_true rfl⟩) (pre_T hK hP hD m_b fb_56 rfl) rfl rfl hl.1 rfl (lv_room (Nat.le_of_ble_eq_true rfl)) dX1_follow_94 ⟨Nat.le_of_ble_eq_true rfl, Nat.le_of_ble_eq_true rfl⟩) hS hA hP (fun r_61 H locs hw hP hS => ?_)
            obtain ⟨h_61, hb_61⟩ : (r_61.toInt = w ce.toInt) ∧ (0 ≤ r_61.toInt ∧ r_61.toInt ≤ 9) := hw
            refine lv_iadd hx hb dX1_follow_97 ?_
            refine lv_topi (fun z_62 q_62 => ?_)
            refine t_iast (L := L) (f := f_54) (h := c_59) (u := k2.toInt) hx hb hK.1 hP hD hS (gm_39 hG) 0 fg_59 rfl dX1_follow_98 (rfl) (by subst hj1; omega) (fun g_63 f_63 H locs eg_63 e9_63 o_63 hP hD hS => ?_)
            have fa_63 : f_63 (g 39) = .inl (cI, 144, .inl g_63) := e9_63
            have hI := IN_set (e := .inl (cI, 144, .inl g_63)) hI (gs_39 hG) (mk_39) fa_63 o_63
            have hF := FR_set hF (gs_39 hG) (show (39 : Nat) ∈ ([15, 36, 37, 38, 39] : List Nat) by decide) o_63
            have hFX := FX_setT hFX (gs_39 hG) (show (39 : Nat) ∈ ([15, 36, 37, 38, 39] : List Nat) by decide) o_63
            have fb_64 : f_63 (g 15) = .inr (1, [.ref (g 35), .ref (g 27), .ref (g 36), .ref (g 37), .ref (g 38), .ref (g 39), .int k2, va_rf (some b)]) := f_at o_63 (S_ne (gs_15 hG) (gs_39 hG) (show (15 : Nat) ≠ 39 by decide)) fb_55
            have fb_65 : f_63 b = .inr (5, [.int (nI jn), .int (nI (2 * jn)), .ref b_p, .int b_l]) := f_at o_63 (S_ne s_b (gs_39 hG) (show (0 : Nat) ≠ 39 by decide)) fb_56
            have fb_66 : f_63 b_p = .inl (cI, b_n, .inl b_c) := f_at o_63 (S_ne s_b_p (gs_39 hG) (show (1 : Nat) ≠ 39 by decide)) fb_57
            have fb_67 : f_63 (g 36) = .inl (cI, 144, .inl g_47) := f_at o_63 (S_ne (gs_36 hG) (gs_39 hG) (show (36 : Nat) ≠ 39 by decide)) fb_58
            have fb_68 : f_63 (g 38) = .inl (cI, 144, .inl g_54) := f_at o_63 (S_ne (gs_38 hG) (gs_39 hG) (show (38 : Nat) ≠ 39 by decide)) fa_54
            refine lv_aload_n hx hb dX1_follow_99 rfl (lv_at hl 0 rfl) ?_
            obtain ⟨c_69, fg_69, iv0_69⟩ := op_27 hI (gm_27 hG) (gs_27 hG)
            have hsv := Arf_at (Arf_fr hsc (gs_27 hG) hF (by decide)) fg_69 ce.toInt (by subst hj1; omega) (by subst hj1; omega)
            refine t_get (D := D) (L := L) (f := f_63) (ci := 1) (v := .ref (g 27)) (C := RX1) (T := TX1) (N := 8) hx hb hts (by decide +kernel) hown hK.1 hP (gm_15 hG) fb_64 rfl 1 (by decide) (hts (.fieldLink RX1 15 "JugglingHall$Catches" "source" "[I") (by decide +kernel)) (fun _ h9 => h9) rfl dX1_follow_100 ?_
            refine lv_iload_n hx hb dX1_follow_103 rfl (lv_at hl 2 rfl) ?_
            refine t_iald (L := L) (f := f_63) (y := c_69) (u := ce.toInt) hx hb hK.1 hP (gm_27 hG) 0 fg_69 rfl dX1_follow_104 (rfl) (by subst hj1; omega) (fun z_70 q_70 e_70 => ?_)
            have a1_70 : -1 ≤ z_70.toInt ∧ z_70.toInt ≤ 143 := by rw [q_70]; exact iv0_69 ce.toInt (by subst hj1; omega) (by subst hj1; omega)
            have hv104 : z_70.toInt = so ce.toInt := by rw [q_70]; exact hsv
            refine lv_istore_n (lv' := [(2, .int z_70), (0, .ref (g 15)), (1, .int x), (3, .int ii)]) hx hb dX1_follow_105 rfl hl (by decide) rfl (fun ls hl => ?_)
            obtain ⟨z_71, q_71, e_71⟩ := i_inc (a := ii.toInt) (1) (rfl) (by decide) (by subst hj1; omega) (by subst hj1; omega)
            refine lv_iinc (v := z_71) (lv' := [(3, .int z_71), (2, .int z_70), (0, .ref (g 15)), (1, .int x)]) hx hb dX1_follow_106 hl (k := 3) rfl q_71 (by decide) rfl (fun ls hl => ?_)
            refine lv_goto (tgt := 34) hx hb dX1_follow_109 (by decide) ?_
            exact ih34 z_70 z_71 k2 f_63 _ _ _ (by subst hj1; omega) hI hF fb_64 (by first | assumption | omega | (subst hj1; omega)) (by first | assumption | omega | (subst hj1; omega)) (by
              have hY := Arf_u hLc (by subst hj1; omega) eg_47 fb_67
              have hne : L1 ce.toInt ≠ kc.toInt := by omega
              have e1 : fupd L1 ce.toInt k2.toInt ce.toInt = kc.toInt := by rw [fu_s]; omega
              refine ⟨_, hY, ?_, ?_⟩
              · rw [show z_70.toInt = so ce.toInt by omega]
                exact LabI_s hLP hB9 y2 hne e1 (fun v9 h9 => fu_n h9)
              · rw [clb_u (L := L1) (u := ce.toInt) _ (by subst hj1; omega) (by subst hj1; omega) (by rw [e1]; omega) (fun v9 h9 => fu_n h9), if_pos (by subst hj1; omega)]; omega) (by first | assumption | omega | (subst hj1; omega)) hP hD hS (lv_sub hl [2, 3, 1, 0] rfl)
  have hz_72 : (0 : Int32).toInt = 0 := by decide
  exact loop34 ((200 - (0 : Int32).toInt).toNat + 1) x (0 : Int32) kc f_17 _ _ _ (by subst hj1; omega) hI hF fb_19 (by first | assumption | omega | (subst hj1; omega)) (by first | assumption | omega | (subst hj1; omega)) (⟨La, ⟨_, fb_22, Arf_at hcy f36_0⟩, LabI_0 hLP hTx hLx, by have := clb_b La (2 * b_l.toInt).toNat; omega⟩) (by first | assumption | omega | (subst hj1; omega)) hP hD hS (lv_sub hl [2, 3, 1, 0] rfl)
