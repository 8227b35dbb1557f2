theorem ush_24 (x : Int32) : ((x.toUInt32 >>> ((24 : Int32).toUInt32 &&& Int32.toUInt32 31)).toInt32 &&& 255) = (x >>> ((24 : Int32) &&& 31)) &&& 255 := by
  apply Int32.toBitVec_inj.mp
  apply BitVec.eq_of_getLsbD_eq
  intro i hi
  rcases (show i < 8 ∨ 8 ≤ i by omega) with q | q
  · have e1 : ((24 : Int32).toUInt32 &&& Int32.toUInt32 31) = (24 : UInt32) := by decide
    have e2 : ((24 : Int32) &&& 31) = 24 := by decide
    rw [e1, e2]
    simp [Int32.toBitVec_shiftRight, UInt32.toBitVec_shiftRight, hi]
    have e3 : (x.toBitVec.sshiftRight 24)[i] = x.toBitVec.getLsbD (24 + i) := by
      rw [BitVec.getElem_sshiftRight]
      simp [show 24 + i < 32 by omega]
    rw [e3]
  · have e : ((255 : Int32).toBitVec).getLsbD i = false := by
      have : ∀ i, i < 32 → 8 ≤ i → ((255 : Int32).toBitVec).getLsbD i = false := by decide
      exact this i hi q
    rw [Int32.toBitVec_and, Int32.toBitVec_and, BitVec.getLsbD_and, BitVec.getLsbD_and, e, Bool.and_false, Bool.and_false]
theorem ush_16 (x : Int32) : ((x.toUInt32 >>> ((16 : Int32).toUInt32 &&& Int32.toUInt32 31)).toInt32 &&& 255) = (x >>> ((16 : Int32) &&& 31)) &&& 255 := by
  apply Int32.toBitVec_inj.mp
  apply BitVec.eq_of_getLsbD_eq
  intro i hi
  rcases (show i < 8 ∨ 8 ≤ i by omega) with q | q
  · have e1 : ((16 : Int32).toUInt32 &&& Int32.toUInt32 31) = (16 : UInt32) := by decide
    have e2 : ((16 : Int32) &&& 31) = 16 := by decide
    rw [e1, e2]
    simp [Int32.toBitVec_shiftRight, UInt32.toBitVec_shiftRight, hi]
    have e3 : (x.toBitVec.sshiftRight 16)[i] = x.toBitVec.getLsbD (16 + i) := by
      rw [BitVec.getElem_sshiftRight]
      simp [show 16 + i < 32 by omega]
    rw [e3]
  · have e : ((255 : Int32).toBitVec).getLsbD i = false := by
      have : ∀ i, i < 32 → 8 ≤ i → ((255 : Int32).toBitVec).getLsbD i = false := by decide
      exact this i hi q
    rw [Int32.toBitVec_and, Int32.toBitVec_and, BitVec.getLsbD_and, BitVec.getLsbD_and, e, Bool.and_false, Bool.and_false]
theorem ush_8 (x : Int32) : ((x.toUInt32 >>> ((8 : Int32).toUInt32 &&& Int32.toUInt32 31)).toInt32 &&& 255) = (x >>> ((8 : Int32) &&& 31)) &&& 255 := by
  apply Int32.toBitVec_inj.mp
  apply BitVec.eq_of_getLsbD_eq
  intro i hi
  rcases (show i < 8 ∨ 8 ≤ i by omega) with q | q
  · have e1 : ((8 : Int32).toUInt32 &&& Int32.toUInt32 31) = (8 : UInt32) := by decide
    have e2 : ((8 : Int32) &&& 31) = 8 := by decide
    rw [e1, e2]
    simp [Int32.toBitVec_shiftRight, UInt32.toBitVec_shiftRight, hi]
    have e3 : (x.toBitVec.sshiftRight 8)[i] = x.toBitVec.getLsbD (8 + i) := by
      rw [BitVec.getElem_sshiftRight]
      simp [show 8 + i < 32 by omega]
    rw [e3]
  · have e : ((255 : Int32).toBitVec).getLsbD i = false := by
      have : ∀ i, i < 32 → 8 ≤ i → ((255 : Int32).toBitVec).getLsbD i = false := by decide
      exact this i hi q
    rw [Int32.toBitVec_and, Int32.toBitVec_and, BitVec.getLsbD_and, BitVec.getLsbD_and, e, Bool.and_false, Bool.and_false]
theorem ush_0 (x : Int32) : ((x.toUInt32 >>> ((0 : Int32).toUInt32 &&& Int32.toUInt32 31)).toInt32 &&& 255) = (x >>> ((0 : Int32) &&& 31)) &&& 255 := by
  apply Int32.toBitVec_inj.mp
  apply BitVec.eq_of_getLsbD_eq
  intro i hi
  rcases (show i < 8 ∨ 8 ≤ i by omega) with q | q
  · have e1 : ((0 : Int32).toUInt32 &&& Int32.toUInt32 31) = (0 : UInt32) := by decide
    have e2 : ((0 : Int32) &&& 31) = 0 := by decide
    rw [e1, e2]
    simp [Int32.toBitVec_shiftRight, UInt32.toBitVec_shiftRight, hi]
  · have e : ((255 : Int32).toBitVec).getLsbD i = false := by
      have : ∀ i, i < 32 → 8 ≤ i → ((255 : Int32).toBitVec).getLsbD i = false := by decide
      exact this i hi q
    rw [Int32.toBitVec_and, Int32.toBitVec_and, BitVec.getLsbD_and, BitVec.getLsbD_and, e, Bool.and_false, Bool.and_false]
theorem ush_e {x s : Int32} {j : Int} (h0 : 0 ≤ j) (h1 : j < 4) (hs : s.toInt = 24 - 8 * j) : ((x.toUInt32 >>> (s.toUInt32 &&& Int32.toUInt32 31)).toInt32 &&& 255) = (x >>> (s &&& 31)) &&& 255 := by
  rcases (show j = 0 ∨ j = 1 ∨ j = 2 ∨ j = 3 by omega) with q | q | q | q
  · have : s = 24 := Int32.toInt_inj.mp (by rw [hs, q]; decide)
    rw [this]; exact ush_24 x
  · have : s = 16 := Int32.toInt_inj.mp (by rw [hs, q]; decide)
    rw [this]; exact ush_16 x
  · have : s = 8 := Int32.toInt_inj.mp (by rw [hs, q]; decide)
    rw [this]; exact ush_8 x
  · have : s = 0 := Int32.toInt_inj.mp (by rw [hs, q]; decide)
    rw [this]; exact ush_0 x
theorem TpC_mk {cI : ClassId} {g : Nat → Nat} {f : Nat → va_E} {cb : Nat → Int32} {n : Int} {ln : Int32} (h1 : f (g 11) = .inr (7, [.ref (g 30), .int ln])) (h2 : f (g 30) = .inl (cI, 300, .inl cb)) (h3 : ln.toInt = n) : TpC cI g f cb n := ⟨ln, h1, h2, h3⟩
theorem CLS_tp {cI cR : ClassId} {jn : Nat} {g lv gr : Nat → Nat} {L : List Nat} {S : Sg} {f f1 : Nat → va_E} {T lk : Int} {Ev : Int → Env1} {cb cb1 : Nat → Int32} {n n1 : Int} {T9 : List Nat} (h : CLS cI cR jn g lv gr L S f T lk Ev cb n) (hG : SG g L S) (hF : FR S T9 f f1) (ht : ∀ t ∈ ([0, 1, 12, 20, 22, 23] : List Nat), t ∉ T9) (hp : TpC cI g f1 cb1 n1) : CLS cI cR jn g lv gr L S f1 T lk Ev cb1 n1 :=
  ⟨BkR_fr h.1 hG hF (fun t h => ht t (by revert t; decide)), hp, LvC_fr h.2.2.1 hG hF (ht 22 (by decide)), GrC_fr h.2.2.2.1 hG hF (ht 23 (by decide)), h.2.2.2.2⟩
theorem CLS_lk {cI cR : ClassId} {jn : Nat} {g lv gr : Nat → Nat} {L : List Nat} {S : Sg} {f f1 : Nat → va_E} {T lk : Int} {Ev : Int → Env1} {cb : Nat → Int32} {n : Int} {tm a : Int32} (h : CLS cI cR jn g lv gr L S f T lk Ev cb n) (hG : SG g L S) (hF : FR S [12] f f1) (ht : tm.toInt = T) (h12 : f1 (g 12) = .inr (0, [.ref (g 20), .ref (g 21), .int tm, .int a])) : CLS cI cR jn g lv gr L S f1 T a.toInt Ev cb n := by
  obtain ⟨⟨c, tm0, lk0, h1, h2, h3, h4, h5⟩, b, b2, b3, b4⟩ := h
  exact ⟨⟨c, tm, a, by rw [hF _ (by rw [gs_20 hG]; decide)]; exact h1, h12, ht, rfl, fun t l t0 t1 l0 l1 => Pg_fx (h5 t l t0 t1 l0 l1) (FR_FX hF) (by decide) (fun _ _ h => h)⟩, TpC_fr b hG hF (by decide), LvC_fr b2 hG hF (by decide), GrC_fr b3 hG hF (by decide), b4⟩
set_option maxRecDepth 100000 in
set_option maxHeartbeats 4000000 in
theorem t_X7_hasRoomm (l : Launch) (D : va_G) (cI cR cM : ClassId) (sz : Nat) {jn : Nat} {g : Nat → Nat} {L : List Nat} {S : Sg} {f : Nat → va_E} {x : Int32} {cb : Nat → Int32} {n9 : Int} (hj : 1 ≤ jn ∧ jn ≤ 3) (hG : SG g L S) (hI : IN jn cI cR cM g L S f) (hj1 : jn = 1) (hTp : TpC cI g f cb n9) (hx0 : 0 ≤ x.toInt ∧ x.toInt ≤ 1000) (hn9 : 0 ≤ n9 ∧ n9 ≤ 300) : Met l yX7_hasRoom wsX7_hasRoom ({ frames := 0, cells := 0, slots := 0, locals := 0 }) (P0 D cI cR cM [.ref (g 11), .int x] sz (va_pl L f)) (QP (fun r => ((r.toInt = 1 ∧ n9 + x.toInt ≤ 300) ∨ (r.toInt = 0 ∧ 300 < n9 + x.toInt)) ∧ (r.toInt = 0 ∨ r.toInt = 1)) sz) 0 0 (va_A [] sz) := by
  refine go (cc := cX7_hasRoom) (maxL := 2) (ret := (some .boolean)) (by decide +kernel) rfl (Nat.le_of_ble_eq_true rfl) ?_
  intro p e s m below meth c ls args Q hQ hsz hx hb hr hml hts hown hlocks hnm hP hK hD hl
  subst hsz
  have hS : va_S (va_A [] s.heap.size) s.heap s.heap [] := va_S.rf
  have hA : ∀ q, s.heap.size ≤ q → va_A [] s.heap.size q := fun q h => Or.inr h
  have hl : lv_has ls 2 [(0, .ref (g 11)), (1, .int x)] := hl
  obtain ⟨len_2, fg_2, iv0_2, iv1_2⟩ := op_11 hI (gm_11 hG) (gs_11 hG)
  have hln_1 := TpC_at (c := cb) hTp fg_2
  refine lv_aload_n hx hb dX7_hasRoom_0 rfl (lv_at hl 0 rfl) ?_
  refine t_get (D := D) (L := L) (f := f) (ci := 7) (v := .int len_2) (C := RX7) (T := TX7) (N := 2) hx hb hts (by decide +kernel) hown hK.1 hP (gm_11 hG) fg_2 rfl 1 (by decide) (hts (.fieldLink RX7 15 "JugglingHall$Tape" "length" "I") (by decide +kernel)) (fun _ h9 => h9) rfl dX7_hasRoom_1 ?_
  refine lv_iload_n hx hb dX7_hasRoom_4 rfl (lv_at hl 1 rfl) ?_
  refine a_iadd (u := len_2.toInt) (v := x.toInt) hx hb dX7_hasRoom_5 (rfl) (rfl) (by subst hj1; omega) (fun z_3 e_3 => ?_)
  refine lv_aload_n hx hb dX7_hasRoom_6 rfl (lv_at hl 0 rfl) ?_
  refine t_get (D := D) (L := L) (f := f) (ci := 7) (v := .ref (g 30)) (C := RX7) (T := TX7) (N := 2) hx hb hts (by decide +kernel) hown hK.1 hP (gm_11 hG) fg_2 rfl 0 (by decide) (hts (.fieldLink RX7 9 "JugglingHall$Tape" "bytes" "[I") (by decide +kernel)) (fun _ h9 => h9) rfl dX7_hasRoom_7 ?_
  obtain ⟨c_4, fg_4, iv0_4⟩ := op_30 hI (gm_30 hG) (gs_30 hG)
  refine t_alen (L := L) (f := f) (v := 300) hx hb hK.1 hP (gm_30 hG) 0 fg_4 rfl rfl dX7_hasRoom_10 ?_
  refine a_icmp_gt (u := (len_2.toInt + x.toInt)) (v := 300) (tgt := 18) hx hb dX7_hasRoom_11 (by decide) (e_3) (by decide) (fun c_5 => ?_) (fun c_5 => ?_)
  · refine lv_iconst (v := 0) hx hb dX7_hasRoom_18 (by decide) ?_
    have hz_6 : (0 : Int32).toInt = 0 := by decide
    exact rp_zret hx hb hr hlocks hS (by first | exact Or.inl rfl | exact Or.inr rfl) (⟨show ((0 : Int32).toInt = 1 ∧ n9 + x.toInt ≤ 300) ∨ ((0 : Int32).toInt = 0 ∧ 300 < n9 + x.toInt) from (by first | assumption | omega | (subst hj1; omega)), show (0 : Int32).toInt = 0 ∨ (0 : Int32).toInt = 1 from (by first | assumption | omega | (subst hj1; omega))⟩) hQ dX7_hasRoom_19
  · refine lv_iconst (v := 1) hx hb dX7_hasRoom_14 (by decide) ?_
    refine lv_goto (tgt := 19) hx hb dX7_hasRoom_15 (by decide) ?_
    have hz_7 : (1 : Int32).toInt = 1 := by decide
    exact rp_zret hx hb hr hlocks hS (by first | exact Or.inl rfl | exact Or.inr rfl) (⟨show ((1 : Int32).toInt = 1 ∧ n9 + x.toInt ≤ 300) ∨ ((1 : Int32).toInt = 0 ∧ 300 < n9 + x.toInt) from (by first | assumption | omega | (subst hj1; omega)), show (1 : Int32).toInt = 0 ∨ (1 : Int32).toInt = 1 from (by first | assumption | omega | (subst hj1; omega))⟩) hQ dX7_hasRoom_19
set_option maxRecDepth 100000 in
set_option maxHeartbeats 4000000 in
theorem t_X7_takem (l : Launch) (D : va_G) (cI cR cM : ClassId) (sz : Nat) {jn : Nat} {g : Nat → Nat} {L : List Nat} {S : Sg} {f : Nat → va_E} {x : Int32} {cb : Nat → Int32} {n9 : Int} (hj : 1 ≤ jn ∧ jn ≤ 3) (hG : SG g L S) (hI : IN jn cI cR cM g L S f) (hj1 : jn = 1) (hTp : TpC cI g f cb n9) (hn9 : 0 ≤ n9 ∧ n9 ≤ 296) : Met l yX7_take wsX7_take ({ frames := 0, cells := 0, slots := 0, locals := 0 }) (P0 D cI cR cM [.ref (g 11), .int x] sz (va_pl L f)) (QG (S := Nat → va_E) (fun u => none) (fun u => va_pl L u) (fun u => IN jn cI cR cM g L S u ∧ FR S [11, 30] f u ∧ (∃ c1 : Nat → Int32, TpC cI g u c1 (n9 + 4) ∧ FourR cb n9 c1 x) ∧ (FX S (fun _ => False) [11, 30] f u)) D (va_A (va_pl L f) sz)) 0 0 (va_A (va_pl L f) sz) := by
  refine go (cc := cX7_take) (maxL := 3) (ret := none) (by decide +kernel) rfl (Nat.le_of_ble_eq_true rfl) ?_
  intro p e s m below meth c ls args Q hQ hsz hx hb hr hml hts hown hlocks hnm hP hK hD hl
  subst hsz
  have hD := hD.self (sz := s.heap.size)
  generalize hAe : va_A (va_pl L f) s.heap.size = A at hD hQ
  have hA : ∀ q, s.heap.size ≤ q → A q := fun q h => by rw [← hAe]; exact Or.inr h
  have hS : va_S A s.heap s.heap [] := va_S.rf
  have hFX : FX S (fun _ => False) [11, 30] f f := FX_rf
  have hF : FR S [11, 30] f f := FR_rf
  have hl : lv_has ls 3 [(0, .ref (g 11)), (1, .int x)] := hl
  refine lv_bipush (v := 24) hx hb dX7_take_0 (by decide) ?_
  refine lv_istore_n (lv' := [(2, .int 24), (0, .ref (g 11)), (1, .int x)]) hx hb dX7_take_2 rfl hl (by decide) rfl (fun ls hl => ?_)
  have loop3 : ∀ (ddloop3 : Nat) (sh : Int32) (f_1 : Nat → va_E) (H : Heap) (locs : List Loc) (ls : Array Slot), (sh.toInt + 16).toNat < ddloop3 → IN jn cI cR cM g L S f_1 → FR S [11, 30] f f_1 → (-8 ≤ sh.toInt ∧ sh.toInt ≤ 24 ∧ sh.toInt % 8 = 0) → (∃ c9 : Nat → Int32, TpC cI g f_1 c9 (n9 + (24 - sh.toInt) / 8) ∧ (∀ i9 : Int, 0 ≤ i9 → i9 < n9 → c9 i9.toNat = cb i9.toNat) ∧ ∀ (j9 : Int) (s9 : Int32), 0 ≤ j9 → 8 * j9 < 24 - sh.toInt → s9.toInt = 24 - 8 * j9 → c9 (n9 + j9).toNat = (x >>> (s9 &&& 31)) &&& 255) → (FX S (fun _ => False) [11, 30] f f_1) → va_P D vwCl (va_pl L f_1) H → va_D A (va_pl L f_1) → va_S A s.heap H locs → lv_has ls 3 [(0, .ref (g 11)), (1, .int x), (2, .int sh)] → W p l e ({ frames := 0, cells := 0, slots := 0, locals := 0 }) s m args below meth c H locs (0) (0) Q (F0 m 3 ls []) := by
    intro ddloop3
    induction ddloop3 with
    | zero =>
      intro sh f_1 H locs ls hdd
      exact absurd hdd (Nat.not_lt_zero _)
    | succ ddloop3 ih3 =>
      intro sh f_1 H locs ls hdd hI hF hi hq hFX hP hD hS hl
      obtain ⟨len_2, fg_2, iv0_2, iv1_2⟩ := op_11 hI (gm_11 hG) (gs_11 hG)
      obtain ⟨c_3, fg_3, iv0_3⟩ := op_30 hI (gm_30 hG) (gs_30 hG)
      have hq0 := hq
      have hk9 := hi
      obtain ⟨c9, hc1, hc2, hc3⟩ := hq
      have hln := TpC_at (c := c9) hc1 fg_2
      have hce : c_3 = c9 := TpC_c hc1 fg_3
      rw [← hce] at hc2 hc3
      refine lv_iload_n hx hb dX7_take_3 rfl (lv_at hl 2 rfl) ?_
      refine a_if_lt (u := sh.toInt) (tgt := 51) hx hb dX7_take_4 (by decide) (rfl) (fun c_4 => ?_) (fun c_4 => ?_)
      · exact g_vret f_1 hx hb hr hlocks hS rfl (⟨hI, hF, show ∃ c1 : Nat → Int32, TpC cI g f_1 c1 (n9 + 4) ∧ FourR cb n9 c1 x from (by
          obtain ⟨c9, hc1, hc2, hc3⟩ := hq0
          rw [show n9 + (24 - sh.toInt) / 8 = n9 + 4 by omega] at hc1
          exact ⟨c9, hc1, hc2, fun j9 s9 h7 h8 h9 => hc3 j9 s9 h7 (by subst hj1; omega) h9⟩), show FX S (fun _ => False) [11, 30] f f_1 from (by first | assumption | omega | (subst hj1; omega))⟩) hP hD hQ (Nat.le_of_ble_eq_true rfl) (Nat.le_of_ble_eq_true rfl) dX7_take_51
      · refine lv_aload_n hx hb dX7_take_7 rfl (lv_at hl 0 rfl) ?_
        refine t_get (D := D) (L := L) (f := f_1) (ci := 7) (v := .int len_2) (C := RX7) (T := TX7) (N := 2) hx hb hts (by decide +kernel) hown hK.1 hP (gm_11 hG) fg_2 rfl 1 (by decide) (hts (.fieldLink RX7 15 "JugglingHall$Tape" "length" "I") (by decide +kernel)) (fun _ h9 => h9) rfl dX7_take_8 ?_
        refine lv_aload_n hx hb dX7_take_11 rfl (lv_at hl 0 rfl) ?_
        refine t_get (D := D) (L := L) (f := f_1) (ci := 7) (v := .ref (g 30)) (C := RX7) (T := TX7) (N := 2) hx hb hts (by decide +kernel) hown hK.1 hP (gm_11 hG) fg_2 rfl 0 (by decide) (hts (.fieldLink RX7 9 "JugglingHall$Tape" "bytes" "[I") (by decide +kernel)) (fun _ h9 => h9) rfl dX7_take_12 ?_
        refine t_alen (L := L) (f := f_1) (v := 300) hx hb hK.1 hP (gm_30 hG) 0 fg_3 rfl rfl dX7_take_15 ?_
        refine a_icmp_ge (u := len_2.toInt) (v := 300) (tgt := 51) hx hb dX7_take_16 (by decide) (rfl) (by decide) (fun c_5 => ?_) (fun c_5 => ?_)
        · exact g_vret f_1 hx hb hr hlocks hS rfl (⟨hI, hF, show ∃ c1 : Nat → Int32, TpC cI g f_1 c1 (n9 + 4) ∧ FourR cb n9 c1 x from (by exfalso; omega), show FX S (fun _ => False) [11, 30] f f_1 from (by first | assumption | omega | (subst hj1; omega))⟩) hP hD hQ (Nat.le_of_ble_eq_true rfl) (Nat.le_of_ble_eq_true rfl) dX7_take_51
        · refine lv_aload_n hx hb dX7_take_19 rfl (lv_at hl 0 rfl) ?_
          refine t_get (D := D) (L := L) (f := f_1) (ci := 7) (v := .ref (g 30)) (C := RX7) (T := TX7) (N := 2) hx hb hts (by decide +kernel) hown hK.1 hP (gm_11 hG) fg_2 rfl 0 (by decide) (hts (.fieldLink RX7 9 "JugglingHall$Tape" "bytes" "[I") (by decide +kernel)) (fun _ h9 => h9) rfl dX7_take_20 ?_
          refine lv_aload_n hx hb dX7_take_23 rfl (lv_at hl 0 rfl) ?_
          refine t_get (D := D) (L := L) (f := f_1) (ci := 7) (v := .int len_2) (C := RX7) (T := TX7) (N := 2) hx hb hts (by decide +kernel) hown hK.1 hP (gm_11 hG) fg_2 rfl 1 (by decide) (hts (.fieldLink RX7 15 "JugglingHall$Tape" "length" "I") (by decide +kernel)) (fun _ h9 => h9) rfl dX7_take_24 ?_
          refine lv_iload_n hx hb dX7_take_27 rfl (lv_at hl 1 rfl) ?_
          refine lv_iload_n hx hb dX7_take_28 rfl (lv_at hl 2 rfl) ?_
          refine lv_iushr hx hb dX7_take_29 rfl ?_
          refine lv_topi (fun z_6 q_6 => ?_)
          refine lv_sipush (v := 255) hx hb dX7_take_30 (by decide) ?_
          refine lv_iand hx hb dX7_take_33 ?_
          refine lv_topi (fun z_7 q_7 => ?_)
          have e9_7 : 0 ≤ z_7.toInt ∧ z_7.toInt ≤ 255 := by rw [q_7]; exact and255 _
          refine t_iast (L := L) (f := f_1) (h := c_3) (u := len_2.toInt) hx hb hK.1 hP hD hS (gm_30 hG) 0 fg_3 rfl dX7_take_34 (rfl) (by subst hj1; omega) (fun g_8 f_8 H locs eg_8 e9_8 o_8 hP hD hS => ?_)
          have ok_8 : ∀ i : Int, 0 ≤ i → i < 300 → 0 ≤ (g_8 i.toNat).toInt ∧ (g_8 i.toNat).toInt ≤ 255 := by rw [eg_8]; exact rng_set iv0_3 (by subst hj1; omega) ⟨by omega, by omega⟩
          have fa_8 : f_8 (g 30) = .inl (cI, 300, .inl g_8) := e9_8
          have hI := IN_set (e := .inl (cI, 300, .inl g_8)) hI (gs_30 hG) (mk_30 ok_8) fa_8 o_8
          have hF := FR_set hF (gs_30 hG) (show (30 : Nat) ∈ ([11, 30] : List Nat) by decide) o_8
          have hFX := FX_setT hFX (gs_30 hG) (show (30 : Nat) ∈ ([11, 30] : List Nat) by decide) o_8
          have fb_9 : f_8 (g 11) = .inr (7, [.ref (g 30), .int len_2]) := f_at o_8 (S_ne (gs_11 hG) (gs_30 hG) (show (11 : Nat) ≠ 30 by decide)) fg_2
          refine lv_aload_n hx hb dX7_take_35 rfl (lv_at hl 0 rfl) ?_
          refine lv_dup hx hb dX7_take_36 rfl ?_
          refine t_get (D := D) (L := L) (f := f_8) (ci := 7) (v := .int len_2) (C := RX7) (T := TX7) (N := 2) hx hb hts (by decide +kernel) hown hK.1 hP (gm_11 hG) fb_9 rfl 1 (by decide) (hts (.fieldLink RX7 15 "JugglingHall$Tape" "length" "I") (by decide +kernel)) (fun _ h9 => h9) rfl dX7_take_37 ?_
          refine lv_iconst (v := 1) hx hb dX7_take_40 (by decide) ?_
          refine a_iadd (u := len_2.toInt) (v := 1) hx hb dX7_take_41 (rfl) (by decide) (by subst hj1; omega) (fun z_10 e_10 => ?_)
          refine t_put (D := D) (L := L) (f := f_8) (ci := 7) (v := .int z_10) (ty := .int) (C := RX7) (T := TX7) (N := 2) hx hb hts (by decide +kernel) tyX7 tyX7_ok nmX7 hown hK.1 hP hD hS (gm_11 hG) fb_9 rfl 1 (by decide) (hts (.fieldLink RX7 15 "JugglingHall$Tape" "length" "I") (by decide +kernel)) (fun _ h9 => h9) rfl (by decide +kernel) rfl rfl (Nat.le_of_ble_eq_true rfl) dX7_take_42 (fun f_11 H locs e9_11 o_11 hP hD hS => ?_)
          have fa_11 : f_11 (g 11) = .inr (7, [.ref (g 30), .int z_10]) := e9_11
          have hI := IN_set (e := .inr (7, [.ref (g 30), .int z_10])) hI (gs_11 hG) (mk_11 (by first | assumption | omega | (subst hj1; omega)) (by first | assumption | omega | (subst hj1; omega))) fa_11 o_11
          have hF := FR_set hF (gs_11 hG) (show (11 : Nat) ∈ ([11, 30] : List Nat) by decide) o_11
          have hFX := FX_setT hFX (gs_11 hG) (show (11 : Nat) ∈ ([11, 30] : List Nat) by decide) o_11
          have fb_12 : f_11 (g 30) = .inl (cI, 300, .inl g_8) := f_at o_11 (S_ne (gs_30 hG) (gs_11 hG) (show (30 : Nat) ≠ 11 by decide)) fa_8
          obtain ⟨z_13, q_13, e_13⟩ := i_inc (a := sh.toInt) (-8) (rfl) (by decide) (by subst hj1; omega) (by subst hj1; omega)
          refine lv_iinc (v := z_13) (lv' := [(2, .int z_13), (0, .ref (g 11)), (1, .int x)]) hx hb dX7_take_45 hl (k := 2) rfl q_13 (by decide) rfl (fun ls hl => ?_)
          refine lv_goto (tgt := 3) hx hb dX7_take_48 (by decide) ?_
          exact ih3 z_13 f_11 _ _ _ (by subst hj1; omega) hI hF (by first | assumption | omega | (subst hj1; omega)) (⟨_, TpC_mk fa_11 fb_12 (by subst hj1; omega), fun i9 h8 h9 => by rw [eg_8, un_i h8 (by subst hj1; omega) (by subst hj1; omega)]; exact hc2 i9 h8 h9, fun j9 s9 h7 h8 h9 => by
            by_cases q9 : 8 * j9 = 24 - sh.toInt
            · rw [eg_8, show n9 + j9 = len_2.toInt by omega, pk_us, q_7, q_6, show s9 = sh from Int32.toInt_inj.mp (by subst hj1; omega)]
              exact ush_e (j := j9) h7 (by subst hj1; omega) (by subst hj1; omega)
            · rw [eg_8, un_i (by subst hj1; omega) (by subst hj1; omega) (by subst hj1; omega)]; exact hc3 j9 s9 h7 (by subst hj1; omega) h9⟩) (by first | assumption | omega | (subst hj1; omega)) hP hD hS (lv_sub hl [1, 2, 0] rfl)
  have hz_14 : (24 : Int32).toInt = 24 := by decide
  exact loop3 (((24 : Int32).toInt + 16).toNat + 1) (24 : Int32) f _ _ _ (by subst hj1; omega) hI hF (by first | assumption | omega | (subst hj1; omega)) (⟨cb, by rw [show n9 + (24 - (24 : Int32).toInt) / 8 = n9 by rw [show (24 : Int32).toInt = 24 from rfl]; omega]; exact hTp, fun _ _ _ => rfl, fun j9 s9 h7 h8 => absurd h8 (by rw [show (24 : Int32).toInt = 24 from rfl]; omega)⟩) (by first | assumption | omega | (subst hj1; omega)) hP hD hS (lv_sub hl [1, 2, 0] rfl)
set_option maxRecDepth 100000 in
set_option maxHeartbeats 4000000 in
theorem t_X10_feedm (l : Launch) (D : va_G) (cI cR cM : ClassId) (sz : Nat) {jn : Nat} {g : Nat → Nat} {L : List Nat} {S : Sg} {f : Nat → va_E} {a b d e9 g9 : Int32} {lv gr : Nat → Nat} {Ev : Int → Env1} {T9 lk9 : Int} {cb : Nat → Int32} {n9 : Int} (hj : 1 ≤ jn ∧ jn ≤ 3) (hG : SG g L S) (hI : IN jn cI cR cM g L S f) (hj1 : jn = 1) (hcl : CLS cI cR jn g lv gr L S f T9 lk9 Ev cb n9) (hn9 : 0 ≤ n9 ∧ n9 ≤ 300) : Met l yX10_feed wsX10_feed ({ frames := 1, cells := 0, slots := 0, locals := 22 }) (P0 D cI cR cM [.ref (g 10), .int a, .int b, .int d, .int e9, .int g9] sz (va_pl L f)) (QG (S := Int32 × (Nat → va_E)) (fun u => some (.int u.1)) (fun u => va_pl L u.2) (fun u => IN jn cI cR cM g L S u.2 ∧ FR S [11, 30] f u.2 ∧ (Hd ((280 < n9 ∧ CLS cI cR jn g lv gr L S u.2 T9 lk9 Ev cb n9) ∨ (n9 ≤ 280 ∧ ∃ c1 : Nat → Int32, CLS cI cR jn g lv gr L S u.2 T9 lk9 Ev c1 (n9 + 20) ∧ FeedR cb n9 c1 a b d e9 g9))) ∧ (FX S (fun _ => False) [11, 30] f u.2)) D (va_A (va_pl L f) sz)) 0 0 (va_A (va_pl L f) sz) := by
  refine go (cc := cX10_feed) (maxL := 6) (ret := (some .int)) (by decide +kernel) rfl (Nat.le_of_ble_eq_true rfl) ?_
  intro p e s m below meth c ls args Q hQ hsz hx hb hr hml hts hown hlocks hnm hP hK hD hl
  subst hsz
  have hD := hD.self (sz := s.heap.size)
  generalize hAe : va_A (va_pl L f) s.heap.size = A at hD hQ
  have hA : ∀ q, s.heap.size ≤ q → A q := fun q h => by rw [← hAe]; exact Or.inr h
  have hS : va_S A s.heap s.heap [] := va_S.rf
  have hFX : FX S (fun _ => False) [11, 30] f f := FX_rf
  have hF : FR S [11, 30] f f := FR_rf
  have hl : lv_has ls 6 [(0, .ref (g 10)), (1, .int a), (2, .int b), (3, .int d), (4, .int e9), (5, .int g9)] := hl
  refine lv_aload_n hx hb dX10_feed_0 rfl (lv_at hl 0 rfl) ?_
  have fg_1 := op_10 hI (gm_10 hG) (gs_10 hG)
  refine t_get (D := D) (L := L) (f := f) (ci := 10) (v := .ref (g 11)) (C := RX10) (T := TX10) (N := 8) hx hb hts (by decide +kernel) hown hK.1 hP (gm_10 hG) fg_1 rfl 1 (by decide) (hts (.fieldLink RX10 25 "JugglingHall" "tape" "LJugglingHall$Tape;") (by decide +kernel)) (fun _ h9 => h9) rfl dX10_feed_1 ?_
  refine lv_bipush (v := 20) hx hb dX10_feed_4 (by decide) ?_
  have hz_2 : (20 : Int32).toInt = 20 := by decide
  obtain ⟨len_3, fg_3, iv0_3, iv1_3⟩ := op_11 hI (gm_11 hG) (gs_11 hG)
  refine roP (va_runV (As := [.int 20]) (rest := []) ⟨hx, hb, hml, hown, hts⟩ (t_X7_hasRoomm l D cI cR cM _ (cb := cb) (n9 := n9)  hj hG hI  (by first | assumption | omega | (subst hj1; omega)) (hcl.2.1) (by decide) (by first | assumption | omega | (subst hj1; omega))) (cwV 1 hts gX10_feed_X7_hasRoom rfl rfl rfl (by decide +kernel) ⟨Nat.le_of_ble_eq_true rfl, Nat.le_of_ble_eq_true rfl⟩) (pre_T hK hP hD (gm_11 hG) fg_3 rfl) rfl rfl hl.1 rfl (lv_room (Nat.le_of_ble_eq_true rfl)) dX10_feed_6 ⟨Nat.le_of_ble_eq_true rfl, Nat.le_of_ble_eq_true rfl⟩) hS hA hP (fun r_4 H locs hw hP hS => ?_)
  obtain ⟨hp_4, h01_4⟩ : ((r_4.toInt = 1 ∧ n9 + (20 : Int32).toInt ≤ 300) ∨ (r_4.toInt = 0 ∧ 300 < n9 + (20 : Int32).toInt)) ∧ (r_4.toInt = 0 ∨ r_4.toInt = 1) := hw
  refine a_if_ne (u := r_4.toInt) (tgt := 14) hx hb dX10_feed_9 (by decide) (rfl) (fun c_5 => ?_) (fun c_5 => ?_)
  · refine lv_aload_n hx hb dX10_feed_14 rfl (lv_at hl 0 rfl) ?_
    refine t_get (D := D) (L := L) (f := f) (ci := 10) (v := .ref (g 11)) (C := RX10) (T := TX10) (N := 8) hx hb hts (by decide +kernel) hown hK.1 hP (gm_10 hG) fg_1 rfl 1 (by decide) (hts (.fieldLink RX10 25 "JugglingHall" "tape" "LJugglingHall$Tape;") (by decide +kernel)) (fun _ h9 => h9) rfl dX10_feed_15 ?_
    refine lv_iload_n hx hb dX10_feed_18 rfl (lv_at hl 1 rfl) ?_
    refine call_p (va_runV (As := [.int a]) (rest := []) ⟨hx, hb, hml, hown, hts⟩ (t_X7_takem l D cI cR cM _ (cb := cb) (n9 := n9)  hj hG hI  (by first | assumption | omega | (subst hj1; omega)) (hcl.2.1) (by subst hj1; omega)) (cwV 1 hts gX10_feed_X7_take rfl rfl rfl (by decide +kernel) ⟨Nat.le_of_ble_eq_true rfl, Nat.le_of_ble_eq_true rfl⟩) (pre_T hK hP hD (gm_11 hG) fg_3 rfl) rfl rfl hl.1 rfl (lv_room (Nat.le_of_ble_eq_true rfl)) dX10_feed_19 ⟨Nat.le_of_ble_eq_true rfl, Nat.le_of_ble_eq_true rfl⟩) hD hS hA (fun u_6 H locs hw hP hD hS => ?_)
    obtain ⟨f_6, e0_6⟩ : ∃ x, x = u_6 := ⟨_, rfl⟩
    subst e0_6
    obtain ⟨hI, hF_6, hp_6, hfx_6⟩ : IN jn cI cR cM g L S f_6 ∧ FR S [11, 30] f f_6 ∧ (∃ c1 : Nat → Int32, TpC cI g f_6 c1 (n9 + 4) ∧ FourR cb n9 c1 a) ∧ (FX S (fun _ => False) [11, 30] f f_6) := hw
    have hP : va_P D vwCl (va_pl L f_6) H := hP
    have hD : va_D A (va_pl L f_6) := hD
    have hF := FR_tr hF hF_6 (by decide)
    have hFX := FX_tr hFX hfx_6 (fun _ h9 => h9.elim) (by decide)
    have fb_7 : f_6 (g 10) = .inr (10, [.int (nI jn), .ref (g 11), .ref (g 12), .ref (g 13), .ref (g 15), .ref (g 16), .ref (g 17), .ref (g 18)]) := FR_at hF_6 (gs_10 hG) (show (10 : Nat) ∉ ([11, 30] : List Nat) by decide) fg_1
    obtain ⟨c_6, tp_6, fo_6⟩ := hp_6
    refine lv_aload_n hx hb dX10_feed_22 rfl (lv_at hl 0 rfl) ?_
    refine t_get (D := D) (L := L) (f := f_6) (ci := 10) (v := .ref (g 11)) (C := RX10) (T := TX10) (N := 8) hx hb hts (by decide +kernel) hown hK.1 hP (gm_10 hG) fb_7 rfl 1 (by decide) (hts (.fieldLink RX10 25 "JugglingHall" "tape" "LJugglingHall$Tape;") (by decide +kernel)) (fun _ h9 => h9) rfl dX10_feed_23 ?_
    refine lv_iload_n hx hb dX10_feed_26 rfl (lv_at hl 2 rfl) ?_
    obtain ⟨len_8, fg_8, iv0_8, iv1_8⟩ := op_11 hI (gm_11 hG) (gs_11 hG)
    refine call_p (va_runV (As := [.int b]) (rest := []) ⟨hx, hb, hml, hown, hts⟩ (t_X7_takem l D cI cR cM _ (cb := c_6) (n9 := (n9 + 4))  hj hG hI  (by first | assumption | omega | (subst hj1; omega)) (by rw [show n9 + 4 = n9 + 4 by omega]; exact tp_6) (by subst hj1; omega)) (cwV 1 hts gX10_feed_X7_take rfl rfl rfl (by decide +kernel) ⟨Nat.le_of_ble_eq_true rfl, Nat.le_of_ble_eq_true rfl⟩) (pre_T hK hP hD (gm_11 hG) fg_8 rfl) rfl rfl hl.1 rfl (lv_room (Nat.le_of_ble_eq_true rfl)) dX10_feed_27 ⟨Nat.le_of_ble_eq_true rfl, Nat.le_of_ble_eq_true rfl⟩) hD hS hA (fun u_9 H locs hw hP hD hS => ?_)
    obtain ⟨f_9, e0_9⟩ : ∃ x, x = u_9 := ⟨_, rfl⟩
    subst e0_9
    obtain ⟨hI, hF_9, hp_9, hfx_9⟩ : IN jn cI cR cM g L S f_9 ∧ FR S [11, 30] f_6 f_9 ∧ (∃ c1 : Nat → Int32, TpC cI g f_9 c1 ((n9 + 4) + 4) ∧ FourR c_6 (n9 + 4) c1 b) ∧ (FX S (fun _ => False) [11, 30] f_6 f_9) := hw
    have hP : va_P D vwCl (va_pl L f_9) H := hP
    have hD : va_D A (va_pl L f_9) := hD
    have hF := FR_tr hF hF_9 (by decide)
    have hFX := FX_tr hFX hfx_9 (fun _ h9 => h9.elim) (by decide)
    have fb_10 : f_9 (g 10) = .inr (10, [.int (nI jn), .ref (g 11), .ref (g 12), .ref (g 13), .ref (g 15), .ref (g 16), .ref (g 17), .ref (g 18)]) := FR_at hF_9 (gs_10 hG) (show (10 : Nat) ∉ ([11, 30] : List Nat) by decide) fb_7
    obtain ⟨c_9, tp_9, fo_9⟩ := hp_9
    refine lv_aload_n hx hb dX10_feed_30 rfl (lv_at hl 0 rfl) ?_
    refine t_get (D := D) (L := L) (f := f_9) (ci := 10) (v := .ref (g 11)) (C := RX10) (T := TX10) (N := 8) hx hb hts (by decide +kernel) hown hK.1 hP (gm_10 hG) fb_10 rfl 1 (by decide) (hts (.fieldLink RX10 25 "JugglingHall" "tape" "LJugglingHall$Tape;") (by decide +kernel)) (fun _ h9 => h9) rfl dX10_feed_31 ?_
    refine lv_iload_n hx hb dX10_feed_34 rfl (lv_at hl 3 rfl) ?_
    obtain ⟨len_11, fg_11, iv0_11, iv1_11⟩ := op_11 hI (gm_11 hG) (gs_11 hG)
    refine call_p (va_runV (As := [.int d]) (rest := []) ⟨hx, hb, hml, hown, hts⟩ (t_X7_takem l D cI cR cM _ (cb := c_9) (n9 := (n9 + 8))  hj hG hI  (by first | assumption | omega | (subst hj1; omega)) (by rw [show n9 + 8 = n9 + 4 + 4 by omega]; exact tp_9) (by subst hj1; omega)) (cwV 1 hts gX10_feed_X7_take rfl rfl rfl (by decide +kernel) ⟨Nat.le_of_ble_eq_true rfl, Nat.le_of_ble_eq_true rfl⟩) (pre_T hK hP hD (gm_11 hG) fg_11 rfl) rfl rfl hl.1 rfl (lv_room (Nat.le_of_ble_eq_true rfl)) dX10_feed_35 ⟨Nat.le_of_ble_eq_true rfl, Nat.le_of_ble_eq_true rfl⟩) hD hS hA (fun u_12 H locs hw hP hD hS => ?_)
    obtain ⟨f_12, e0_12⟩ : ∃ x, x = u_12 := ⟨_, rfl⟩
    subst e0_12
    obtain ⟨hI, hF_12, hp_12, hfx_12⟩ : IN jn cI cR cM g L S f_12 ∧ FR S [11, 30] f_9 f_12 ∧ (∃ c1 : Nat → Int32, TpC cI g f_12 c1 ((n9 + 8) + 4) ∧ FourR c_9 (n9 + 8) c1 d) ∧ (FX S (fun _ => False) [11, 30] f_9 f_12) := hw
    have hP : va_P D vwCl (va_pl L f_12) H := hP
    have hD : va_D A (va_pl L f_12) := hD
    have hF := FR_tr hF hF_12 (by decide)
    have hFX := FX_tr hFX hfx_12 (fun _ h9 => h9.elim) (by decide)
    have fb_13 : f_12 (g 10) = .inr (10, [.int (nI jn), .ref (g 11), .ref (g 12), .ref (g 13), .ref (g 15), .ref (g 16), .ref (g 17), .ref (g 18)]) := FR_at hF_12 (gs_10 hG) (show (10 : Nat) ∉ ([11, 30] : List Nat) by decide) fb_10
    obtain ⟨c_12, tp_12, fo_12⟩ := hp_12
    refine lv_aload_n hx hb dX10_feed_38 rfl (lv_at hl 0 rfl) ?_
    refine t_get (D := D) (L := L) (f := f_12) (ci := 10) (v := .ref (g 11)) (C := RX10) (T := TX10) (N := 8) hx hb hts (by decide +kernel) hown hK.1 hP (gm_10 hG) fb_13 rfl 1 (by decide) (hts (.fieldLink RX10 25 "JugglingHall" "tape" "LJugglingHall$Tape;") (by decide +kernel)) (fun _ h9 => h9) rfl dX10_feed_39 ?_
    refine lv_iload hx hb dX10_feed_42 (lv_at hl 4 rfl) ?_
    obtain ⟨len_14, fg_14, iv0_14, iv1_14⟩ := op_11 hI (gm_11 hG) (gs_11 hG)
    refine call_p (va_runV (As := [.int e9]) (rest := []) ⟨hx, hb, hml, hown, hts⟩ (t_X7_takem l D cI cR cM _ (cb := c_12) (n9 := (n9 + 12))  hj hG hI  (by first | assumption | omega | (subst hj1; omega)) (by rw [show n9 + 12 = n9 + 8 + 4 by omega]; exact tp_12) (by subst hj1; omega)) (cwV 1 hts gX10_feed_X7_take rfl rfl rfl (by decide +kernel) ⟨Nat.le_of_ble_eq_true rfl, Nat.le_of_ble_eq_true rfl⟩) (pre_T hK hP hD (gm_11 hG) fg_14 rfl) rfl rfl hl.1 rfl (lv_room (Nat.le_of_ble_eq_true rfl)) dX10_feed_44 ⟨Nat.le_of_ble_eq_true rfl, Nat.le_of_ble_eq_true rfl⟩) hD hS hA (fun u_15 H locs hw hP hD hS => ?_)
    obtain ⟨f_15, e0_15⟩ : ∃ x, x = u_15 := ⟨_, rfl⟩
    subst e0_15
    obtain ⟨hI, hF_15, hp_15, hfx_15⟩ : IN jn cI cR cM g L S f_15 ∧ FR S [11, 30] f_12 f_15 ∧ (∃ c1 : Nat → Int32, TpC cI g f_15 c1 ((n9 + 12) + 4) ∧ FourR c_12 (n9 + 12) c1 e9) ∧ (FX S (fun _ => False) [11, 30] f_12 f_15) := hw
    have hP : va_P D vwCl (va_pl L f_15) H := hP
    have hD : va_D A (va_pl L f_15) := hD
    have hF := FR_tr hF hF_15 (by decide)
    have hFX := FX_tr hFX hfx_15 (fun _ h9 => h9.elim) (by decide)
    have fb_16 : f_15 (g 10) = .inr (10, [.int (nI jn), .ref (g 11), .ref (g 12), .ref (g 13), .ref (g 15), .ref (g 16), .ref (g 17), .ref (g 18)]) := FR_at hF_15 (gs_10 hG) (show (10 : Nat) ∉ ([11, 30] : List Nat) by decide) fb_13
    obtain ⟨c_15, tp_15, fo_15⟩ := hp_15
    refine lv_aload_n hx hb dX10_feed_47 rfl (lv_at hl 0 rfl) ?_
    refine t_get (D := D) (L := L) (f := f_15) (ci := 10) (v := .ref (g 11)) (C := RX10) (T := TX10) (N := 8) hx hb hts (by decide +kernel) hown hK.1 hP (gm_10 hG) fb_16 rfl 1 (by decide) (hts (.fieldLink RX10 25 "JugglingHall" "tape" "LJugglingHall$Tape;") (by decide +kernel)) (fun _ h9 => h9) rfl dX10_feed_48 ?_
    refine lv_iload hx hb dX10_feed_51 (lv_at hl 5 rfl) ?_
    obtain ⟨len_17, fg_17, iv0_17, iv1_17⟩ := op_11 hI (gm_11 hG) (gs_11 hG)
    refine call_p (va_runV (As := [.int g9]) (rest := []) ⟨hx, hb, hml, hown, hts⟩ (t_X7_takem l D cI cR cM _ (cb := c_15) (n9 := (n9 + 16))  hj hG hI  (by first | assumption | omega | (subst hj1; omega)) (by rw [show n9 + 16 = n9 + 12 + 4 by omega]; exact tp_15) (by subst hj1; omega)) (cwV 1 hts gX10_feed_X7_take rfl rfl rfl (by decide +kernel) ⟨Nat.le_of_ble_eq_true rfl, Nat.le_of_ble_eq_true rfl⟩) (pre_T hK hP hD (gm_11 hG) fg_17 rfl) rfl rfl hl.1 rfl (lv_room (Nat.le_of_ble_eq_true rfl)) dX10_feed_53 ⟨Nat.le_of_ble_eq_true rfl, Nat.le_of_ble_eq_true rfl⟩) hD hS hA (fun u_18 H locs hw hP hD hS => ?_)
    obtain ⟨f_18, e0_18⟩ : ∃ x, x = u_18 := ⟨_, rfl⟩
    subst e0_18
    obtain ⟨hI, hF_18, hp_18, hfx_18⟩ : IN jn cI cR cM g L S f_18 ∧ FR S [11, 30] f_15 f_18 ∧ (∃ c1 : Nat → Int32, TpC cI g f_18 c1 ((n9 + 16) + 4) ∧ FourR c_15 (n9 + 16) c1 g9) ∧ (FX S (fun _ => False) [11, 30] f_15 f_18) := hw
    have hP : va_P D vwCl (va_pl L f_18) H := hP
    have hD : va_D A (va_pl L f_18) := hD
    have hF := FR_tr hF hF_18 (by decide)
    have hFX := FX_tr hFX hfx_18 (fun _ h9 => h9.elim) (by decide)
    have fb_19 : f_18 (g 10) = .inr (10, [.int (nI jn), .ref (g 11), .ref (g 12), .ref (g 13), .ref (g 15), .ref (g 16), .ref (g 17), .ref (g 18)]) := FR_at hF_18 (gs_10 hG) (show (10 : Nat) ∉ ([11, 30] : List Nat) by decide) fb_16
    obtain ⟨c_18, tp_18, fo_18⟩ := hp_18
    refine lv_aload_n hx hb dX10_feed_56 rfl (lv_at hl 0 rfl) ?_
    refine t_get (D := D) (L := L) (f := f_18) (ci := 10) (v := .ref (g 11)) (C := RX10) (T := TX10) (N := 8) hx hb hts (by decide +kernel) hown hK.1 hP (gm_10 hG) fb_19 rfl 1 (by decide) (hts (.fieldLink RX10 25 "JugglingHall" "tape" "LJugglingHall$Tape;") (by decide +kernel)) (fun _ h9 => h9) rfl dX10_feed_57 ?_
    obtain ⟨len_20, fg_20, iv0_20, iv1_20⟩ := op_11 hI (gm_11 hG) (gs_11 hG)
    refine t_getN (D := D) (L := L) (f := f_18) (ci := 7) (v := .int len_20) (C := RX7) (T := TX7) (N := 2) (host := "JugglingHall") hx hb hts (by decide +kernel) hown hK.1 hP (gm_11 hG) fg_20 rfl 1 (by decide) (hK.nw (.fieldLinkNest RX10 86 "JugglingHall$Tape" "length" "I" "JugglingHall") (by decide +kernel) rfl) (fun _ h9 => h9) rfl dX10_feed_60 ?_
    exact g_iret (len_20, f_18) hx hb hr hlocks hS rfl (⟨hI, hF, show Hd ((280 < n9 ∧ CLS cI cR jn g lv gr L S f_18 T9 lk9 Ev cb n9) ∨ (n9 ≤ 280 ∧ ∃ c1 : Nat → Int32, CLS cI cR jn g lv gr L S f_18 T9 lk9 Ev c1 (n9 + 20) ∧ FeedR cb n9 c1 a b d e9 g9)) from (Or.inr ⟨by omega, c_18, CLS_tp (n1 := n9 + 20) hcl hG hF (by decide) (by rw [show n9 + 20 = n9 + 16 + 4 by omega]; exact tp_18), c_6, c_9, c_12, c_15, fo_6, fo_9, fo_12, fo_15, fo_18⟩), show FX S (fun _ => False) [11, 30] f f_18 from (by first | assumption | omega | (subst hj1; omega))⟩) hP hD hQ (Nat.le_of_ble_eq_true rfl) (Nat.le_of_ble_eq_true rfl) dX10_feed_63
  · refine lv_iconst (v := (-1)) hx hb dX10_feed_12 (by decide) ?_
    have hz_21 : (-1 : Int32).toInt = (-1) := by decide
    exact g_iret ((-1 : Int32), f) hx hb hr hlocks hS rfl (⟨hI, hF, show Hd ((280 < n9 ∧ CLS cI cR jn g lv gr L S f T9 lk9 Ev cb n9) ∨ (n9 ≤ 280 ∧ ∃ c1 : Nat → Int32, CLS cI cR jn g lv gr L S f T9 lk9 Ev c1 (n9 + 20) ∧ FeedR cb n9 c1 a b d e9 g9)) from (Or.inl ⟨by omega, hcl⟩), show FX S (fun _ => False) [11, 30] f f from (by first | assumption | omega | (subst hj1; omega))⟩) hP hD hQ (Nat.le_of_ble_eq_true rfl) (Nat.le_of_ble_eq_true rfl) dX10_feed_13
set_option maxRecDepth 100000 in
set_option maxHeartbeats 4000000 in
theorem t_X10_endm (l : Launch) (D : va_G) (cI cR cM : ClassId) (sz : Nat) {jn : Nat} {g : Nat → Nat} {L : List Nat} {S : Sg} {f : Nat → va_E} {a : Int32} {lv gr : Nat → Nat} {Ev : Int → Env1} {T9 lk9 : Int} {cb : Nat → Int32} {n9 : Int} (hj : 1 ≤ jn ∧ jn ≤ 3) (hG : SG g L S) (hI : IN jn cI cR cM g L S f) (hj1 : jn = 1) (hcl : CLS cI cR jn g lv gr L S f T9 lk9 Ev cb n9) (hn9 : 0 ≤ n9 ∧ n9 ≤ 300) : Met l yX10_end wsX10_end ({ frames := 0, cells := 0, slots := 0, locals := 0 }) (P0 D cI cR cM [.ref (g 10), .int a] sz (va_pl L f)) (QG (S := Int32 × (Nat → va_E)) (fun u => some (.int u.1)) (fun u => va_pl L u.2) (fun u => IN jn cI cR cM g L S u.2 ∧ FR S [11] f u.2 ∧ ((0 ≤ a.toInt ∧ a.toInt ≤ n9 ∧ CLS cI cR jn g lv gr L S u.2 T9 lk9 Ev cb a.toInt) ∨ (¬ (0 ≤ a.toInt ∧ a.toInt ≤ n9) ∧ CLS cI cR jn g lv gr L S u.2 T9 lk9 Ev cb n9)) ∧ (FX S (fun _ => False) [11] f u.2)) D (va_A (va_pl L f) sz)) 0 0 (va_A (va_pl L f) sz) := by
  refine go (cc := cX10_end) (maxL := 2) (ret := (some .int)) (by decide +kernel) rfl (Nat.le_of_ble_eq_true rfl) ?_
  intro p e s m below meth c ls args Q hQ hsz hx hb hr hml hts hown hlocks hnm hP hK hD hl
  subst hsz
  have hD := hD.self (sz := s.heap.size)
  generalize hAe : va_A (va_pl L f) s.heap.size = A at hD hQ
  have hA : ∀ q, s.heap.size ≤ q → A q := fun q h => by rw [← hAe]; exact Or.inr h
  have hS : va_S A s.heap s.heap [] := va_S.rf
  have hFX : FX S (fun _ => False) [11] f f := FX_rf
  have hF : FR S [11] f f := FR_rf
  have hl : lv_has ls 2 [(0, .ref (g 10)), (1, .int a)] := hl
  obtain ⟨len_2, fg_2, iv0_2, iv1_2⟩ := op_11 hI (gm_11 hG) (gs_11 hG)
  have hln_1 := TpC_at (c := cb) hcl.2.1 fg_2
  refine lv_iload_n hx hb dX10_end_0 rfl (lv_at hl 1 rfl) ?_
  refine a_if_lt (u := a.toInt) (tgt := 15) hx hb dX10_end_1 (by decide) (rfl) (fun c_3 => ?_) (fun c_3 => ?_)
  · refine lv_iconst (v := (-1)) hx hb dX10_end_15 (by decide) ?_
    have hz_4 : (-1 : Int32).toInt = (-1) := by decide
    exact g_iret ((-1 : Int32), f) hx hb hr hlocks hS rfl (⟨hI, hF, show (0 ≤ a.toInt ∧ a.toInt ≤ n9 ∧ CLS cI cR jn g lv gr L S f T9 lk9 Ev cb a.toInt) ∨ (¬ (0 ≤ a.toInt ∧ a.toInt ≤ n9) ∧ CLS cI cR jn g lv gr L S f T9 lk9 Ev cb n9) from (Or.inr ⟨by omega, hcl⟩), show FX S (fun _ => False) [11] f f from (by first | assumption | omega | (subst hj1; omega))⟩) hP hD hQ (Nat.le_of_ble_eq_true rfl) (Nat.le_of_ble_eq_true rfl) dX10_end_16
  · refine lv_iload_n hx hb dX10_end_4 rfl (lv_at hl 1 rfl) ?_
    refine lv_aload_n hx hb dX10_end_5 rfl (lv_at hl 0 rfl) ?_
    have fg_5 := op_10 hI (gm_10 hG) (gs_10 hG)
    refine t_get (D := D) (L := L) (f := f) (ci := 10) (v := .ref (g 11)) (C := RX10) (T := TX10) (N := 8) hx hb hts (by decide +kernel) hown hK.1 hP (gm_10 hG) fg_5 rfl 1 (by decide) (hts (.fieldLink RX10 25 "JugglingHall" "tape" "LJugglingHall$Tape;") (by decide +kernel)) (fun _ h9 => h9) rfl dX10_end_6 ?_
    refine t_getN (D := D) (L := L) (f := f) (ci := 7) (v := .int len_2) (C := RX7) (T := TX7) (N := 2) (host := "JugglingHall") hx hb hts (by decide +kernel) hown hK.1 hP (gm_11 hG) fg_2 rfl 1 (by decide) (hK.nw (.fieldLinkNest RX10 86 "JugglingHall$Tape" "length" "I" "JugglingHall") (by decide +kernel) rfl) (fun _ h9 => h9) rfl dX10_end_9 ?_
    refine a_icmp_le (u := a.toInt) (v := len_2.toInt) (tgt := 17) hx hb dX10_end_12 (by decide) (rfl) (rfl) (fun c_6 => ?_) (fun c_6 => ?_)
    · refine lv_aload_n hx hb dX10_end_17 rfl (lv_at hl 0 rfl) ?_
      refine t_get (D := D) (L := L) (f := f) (ci := 10) (v := .ref (g 11)) (C := RX10) (T := TX10) (N := 8) hx hb hts (by decide +kernel) hown hK.1 hP (gm_10 hG) fg_5 rfl 1 (by decide) (hts (.fieldLink RX10 25 "JugglingHall" "tape" "LJugglingHall$Tape;") (by decide +kernel)) (fun _ h9 => h9) rfl dX10_end_18 ?_
      refine lv_iload_n hx hb dX10_end_21 rfl (lv_at hl 1 rfl) ?_
      refine t_putN (D := D) (L := L) (f := f) (ci := 7) (v := .int a) (ty := .int) (C := RX7) (T := TX7) (N := 2) (host := "JugglingHall") hx hb hts (by decide +kernel) tyX7 tyX7_ok nmX7 hown hK.1 hP hD hS (gm_11 hG) fg_2 rfl 1 (by decide) (hK.nw (.fieldLinkNest RX10 86 "JugglingHall$Tape" "length" "I" "JugglingHall") (by decide +kernel) rfl) (fun _ h9 => h9) rfl (by decide +kernel) rfl rfl (Nat.le_of_ble_eq_true rfl) dX10_end_22 (fun f_7 H locs e9_7 o_7 hP hD hS => ?_)
      have fa_7 : f_7 (g 11) = .inr (7, [.ref (g 30), .int a]) := e9_7
      have hI := IN_set (e := .inr (7, [.ref (g 30), .int a])) hI (gs_11 hG) (mk_11 (by first | assumption | omega | (subst hj1; omega)) (by first | assumption | omega | (subst hj1; omega))) fa_7 o_7
      have hF := FR_set hF (gs_11 hG) (show (11 : Nat) ∈ ([11] : List Nat) by decide) o_7
      have hFX := FX_setT hFX (gs_11 hG) (show (11 : Nat) ∈ ([11] : List Nat) by decide) o_7
      have fb_8 : f_7 (g 10) = .inr (10, [.int (nI jn), .ref (g 11), .ref (g 12), .ref (g 13), .ref (g 15), .ref (g 16), .ref (g 17), .ref (g 18)]) := f_at o_7 (S_ne (gs_10 hG) (gs_11 hG) (show (10 : Nat) ≠ 11 by decide)) fg_5
      refine lv_iload_n hx hb dX10_end_25 rfl (lv_at hl 1 rfl) ?_
      exact g_iret (a, f_7) hx hb hr hlocks hS rfl (⟨hI, hF, show (0 ≤ a.toInt ∧ a.toInt ≤ n9 ∧ CLS cI cR jn g lv gr L S f_7 T9 lk9 Ev cb a.toInt) ∨ (¬ (0 ≤ a.toInt ∧ a.toInt ≤ n9) ∧ CLS cI cR jn g lv gr L S f_7 T9 lk9 Ev cb n9) from (Or.inl ⟨by omega, by omega, CLS_tp hcl hG hF (by decide) (by
        obtain ⟨l9, u1, u2, u3⟩ := hcl.2.1
        exact ⟨_, fa_7, by rw [o_7 _ (S_ne (gs_30 hG) (gs_11 hG) (show (30 : Nat) ≠ 11 by decide))]; exact u2, rfl⟩)⟩), show FX S (fun _ => False) [11] f f_7 from (by first | assumption | omega | (subst hj1; omega))⟩) hP hD hQ (Nat.le_of_ble_eq_true rfl) (Nat.le_of_ble_eq_true rfl) dX10_end_26
    · refine lv_iconst (v := (-1)) hx hb dX10_end_15 (by decide) ?_
      have hz_9 : (-1 : Int32).toInt = (-1) := by decide
      exact g_iret ((-1 : Int32), f) hx hb hr hlocks hS rfl (⟨hI, hF, show (0 ≤ a.toInt ∧ a.toInt ≤ n9 ∧ CLS cI cR jn g lv gr L S f T9 lk9 Ev cb a.toInt) ∨ (¬ (0 ≤ a.toInt ∧ a.toInt ≤ n9) ∧ CLS cI cR jn g lv gr L S f T9 lk9 Ev cb n9) from (Or.inr ⟨by omega, hcl⟩), show FX S (fun _ => False) [11] f f from (by first | assumption | omega | (subst hj1; omega))⟩) hP hD hQ (Nat.le_of_ble_eq_true rfl) (Nat.le_of_ble_eq_true rfl) dX10_end_16
set_option maxRecDepth 100000 in
set_option maxHeartbeats 4000000 in
theorem t_X10_lookm (l : Launch) (D : va_G) (cI cR cM : ClassId) (sz : Nat) {jn : Nat} {g : Nat → Nat} {L : List Nat} {S : Sg} {f : Nat → va_E} {a : Int32} {lv gr : Nat → Nat} {Ev : Int → Env1} {T9 lk9 : Int} {cb : Nat → Int32} {n9 : Int} (hj : 1 ≤ jn ∧ jn ≤ 3) (hG : SG g L S) (hI : IN jn cI cR cM g L S f) (hj1 : jn = 1) (hcl : CLS cI cR jn g lv gr L S f T9 lk9 Ev cb n9) : Met l yX10_look wsX10_look ({ frames := 0, cells := 0, slots := 0, locals := 0 }) (P0 D cI cR cM [.ref (g 10), .int a] sz (va_pl L f)) (QG (S := Int32 × (Nat → va_E)) (fun u => some (.int u.1)) (fun u => va_pl L u.2) (fun u => IN jn cI cR cM g L S u.2 ∧ FR S [12] f u.2 ∧ ((0 ≤ a.toInt ∧ a.toInt ≤ T9 ∧ CLS cI cR jn g lv gr L S u.2 T9 a.toInt Ev cb n9) ∨ (¬ (0 ≤ a.toInt ∧ a.toInt ≤ T9) ∧ CLS cI cR jn g lv gr L S u.2 T9 lk9 Ev cb n9)) ∧ (FX S (fun _ => False) [12] f u.2) ∧ (u.1.toInt = 0 ∨ u.1.toInt = 1)) D (va_A (va_pl L f) sz)) 0 0 (va_A (va_pl L f) sz) := by
  refine go (cc := cX10_look) (maxL := 2) (ret := (some .boolean)) (by decide +kernel) rfl (Nat.le_of_ble_eq_true rfl) ?_
  intro p e s m below meth c ls args Q hQ hsz hx hb hr hml hts hown hlocks hnm hP hK hD hl
  subst hsz
  have hD := hD.self (sz := s.heap.size)
  generalize hAe : va_A (va_pl L f) s.heap.size = A at hD hQ
  have hA : ∀ q, s.heap.size ≤ q → A q := fun q h => by rw [← hAe]; exact Or.inr h
  have hS : va_S A s.heap s.heap [] := va_S.rf
  have hFX : FX S (fun _ => False) [12] f f := FX_rf
  have hF : FR S [12] f f := FR_rf
  have hl : lv_has ls 2 [(0, .ref (g 10)), (1, .int a)] := hl
  obtain ⟨tm_1, lk_1, fg_1, iv0_1, iv1_1, iv2_1⟩ := op_12 hI (gm_12 hG) (gs_12 hG)
  obtain ⟨cb0, tm0, lk0, q20, q12, qT, qlk, qP⟩ := hcl.1
  have htm9 := f12_at q12 fg_1
  refine lv_iload_n hx hb dX10_look_0 rfl (lv_at hl 1 rfl) ?_
  refine a_if_lt (u := a.toInt) (tgt := 15) hx hb dX10_look_1 (by decide) (rfl) (fun c_2 => ?_) (fun c_2 => ?_)
  · refine lv_iconst (v := 0) hx hb dX10_look_15 (by decide) ?_
    have hz_3 : (0 : Int32).toInt = 0 := by decide
    exact g_zret ((0 : Int32), f) hx hb hr hlocks hS (by first | exact Or.inl rfl | exact Or.inr rfl) rfl (⟨hI, hF, show (0 ≤ a.toInt ∧ a.toInt ≤ T9 ∧ CLS cI cR jn g lv gr L S f T9 a.toInt Ev cb n9) ∨ (¬ (0 ≤ a.toInt ∧ a.toInt ≤ T9) ∧ CLS cI cR jn g lv gr L S f T9 lk9 Ev cb n9) from (Or.inr ⟨by omega, hcl⟩), show FX S (fun _ => False) [12] f f from (by first | assumption | omega | (subst hj1; omega)), show (0 : Int32).toInt = 0 ∨ (0 : Int32).toInt = 1 from (by first | assumption | omega | (subst hj1; omega))⟩) hP hD hQ (Nat.le_of_ble_eq_true rfl) (Nat.le_of_ble_eq_true rfl) dX10_look_16
  · refine lv_iload_n hx hb dX10_look_4 rfl (lv_at hl 1 rfl) ?_
    refine lv_aload_n hx hb dX10_look_5 rfl (lv_at hl 0 rfl) ?_
    have fg_4 := op_10 hI (gm_10 hG) (gs_10 hG)
    refine t_get (D := D) (L := L) (f := f) (ci := 10) (v := .ref (g 12)) (C := RX10) (T := TX10) (N := 8) hx hb hts (by decide +kernel) hown hK.1 hP (gm_10 hG) fg_4 rfl 2 (by decide) (hts (.fieldLink RX10 32 "JugglingHall" "book" "LJugglingHall$Book;") (by decide +kernel)) (fun _ h9 => h9) rfl dX10_look_6 ?_
    refine t_getN (D := D) (L := L) (f := f) (ci := 0) (v := .int tm_1) (C := RX0) (T := TX0) (N := 4) (host := "JugglingHall") hx hb hts (by decide +kernel) hown hK.1 hP (gm_12 hG) fg_1 rfl 2 (by decide) (hK.nw (.fieldLinkNest RX10 99 "JugglingHall$Book" "time" "I" "JugglingHall") (by decide +kernel) rfl) (fun _ h9 => h9) rfl dX10_look_9 ?_
    refine a_icmp_le (u := a.toInt) (v := tm_1.toInt) (tgt := 17) hx hb dX10_look_12 (by decide) (rfl) (rfl) (fun c_5 => ?_) (fun c_5 => ?_)
    · refine lv_aload_n hx hb dX10_look_17 rfl (lv_at hl 0 rfl) ?_
      refine t_get (D := D) (L := L) (f := f) (ci := 10) (v := .ref (g 12)) (C := RX10) (T := TX10) (N := 8) hx hb hts (by decide +kernel) hown hK.1 hP (gm_10 hG) fg_4 rfl 2 (by decide) (hts (.fieldLink RX10 32 "JugglingHall" "book" "LJugglingHall$Book;") (by decide +kernel)) (fun _ h9 => h9) rfl dX10_look_18 ?_
      refine lv_iload_n hx hb dX10_look_21 rfl (lv_at hl 1 rfl) ?_
      refine t_putN (D := D) (L := L) (f := f) (ci := 0) (v := .int a) (ty := .int) (C := RX0) (T := TX0) (N := 4) (host := "JugglingHall") hx hb hts (by decide +kernel) tyX0 tyX0_ok nmX0 hown hK.1 hP hD hS (gm_12 hG) fg_1 rfl 3 (by decide) (hK.nw (.fieldLinkNest RX10 108 "JugglingHall$Book" "lookTime" "I" "JugglingHall") (by decide +kernel) rfl) (fun _ h9 => h9) rfl (by decide +kernel) rfl rfl (Nat.le_of_ble_eq_true rfl) dX10_look_22 (fun f_6 H locs e9_6 o_6 hP hD hS => ?_)
      have fa_6 : f_6 (g 12) = .inr (0, [.ref (g 20), .ref (g 21), .int tm_1, .int a]) := e9_6
      have hI := IN_set (e := .inr (0, [.ref (g 20), .ref (g 21), .int tm_1, .int a])) hI (gs_12 hG) (mk_12 (by first | assumption | omega | (subst hj1; omega)) (by first | assumption | omega | (subst hj1; omega)) (by first | assumption | omega | (subst hj1; omega))) fa_6 o_6
      have hF := FR_set hF (gs_12 hG) (show (12 : Nat) ∈ ([12] : List Nat) by decide) o_6
      have hFX := FX_setT hFX (gs_12 hG) (show (12 : Nat) ∈ ([12] : List Nat) by decide) o_6
      have fb_7 : f_6 (g 10) = .inr (10, [.int (nI jn), .ref (g 11), .ref (g 12), .ref (g 13), .ref (g 15), .ref (g 16), .ref (g 17), .ref (g 18)]) := f_at o_6 (S_ne (gs_10 hG) (gs_12 hG) (show (10 : Nat) ≠ 12 by decide)) fg_4
      refine lv_iconst (v := 1) hx hb dX10_look_25 (by decide) ?_
      have hz_8 : (1 : Int32).toInt = 1 := by decide
      exact g_zret ((1 : Int32), f_6) hx hb hr hlocks hS (by first | exact Or.inl rfl | exact Or.inr rfl) rfl (⟨hI, hF, show (0 ≤ a.toInt ∧ a.toInt ≤ T9 ∧ CLS cI cR jn g lv gr L S f_6 T9 a.toInt Ev cb n9) ∨ (¬ (0 ≤ a.toInt ∧ a.toInt ≤ T9) ∧ CLS cI cR jn g lv gr L S f_6 T9 lk9 Ev cb n9) from (Or.inl ⟨by omega, by omega, CLS_lk hcl hG hF (by subst hj1; omega) fa_6⟩), show FX S (fun _ => False) [12] f f_6 from (by first | assumption | omega | (subst hj1; omega)), show (1 : Int32).toInt = 0 ∨ (1 : Int32).toInt = 1 from (by first | assumption | omega | (subst hj1; omega))⟩) hP hD hQ (Nat.le_of_ble_eq_true rfl) (Nat.le_of_ble_eq_true rfl) dX10_look_26
    · refine lv_iconst (v := 0) hx hb dX10_look_15 (by decide) ?_
      have hz_9 : (0 : Int32).toInt = 0 := by decide
      exact g_zret ((0 : Int32), f) hx hb hr hlocks hS (by first | exact Or.inl rfl | exact Or.inr rfl) rfl (⟨hI, hF, show (0 ≤ a.toInt ∧ a.toInt ≤ T9 ∧ CLS cI cR jn g lv gr L S f T9 a.toInt Ev cb n9) ∨ (¬ (0 ≤ a.toInt ∧ a.toInt ≤ T9) ∧ CLS cI cR jn g lv gr L S f T9 lk9 Ev cb n9) from (Or.inr ⟨by omega, hcl⟩), show FX S (fun _ => False) [12] f f from (by first | assumption | omega | (subst hj1; omega)), show (0 : Int32).toInt = 0 ∨ (0 : Int32).toInt = 1 from (by first | assumption | omega | (subst hj1; omega))⟩) hP hD hQ (Nat.le_of_ble_eq_true rfl) (Nat.le_of_ble_eq_true rfl) dX10_look_16
