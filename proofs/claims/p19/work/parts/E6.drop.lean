/-- when drop may go -/
def DrK (Ev : Int → Env1) (T lk x z : Int) : Prop := (0 ≤ x ∧ x < 8) ∧ (0 ≤ z ∧ z < 8) ∧ T < 60 ∧ 0 < (Ev lk x).1 ∧ GdW (Ev lk x).2 (Ev lk x).1
/-- the cycles of a row, with their numbers -/
def DrL (w : Int → Int) (n : Int) (La : Int → Int) (k : Int) : Prop := ∃ so : Int → Int, SrcF w n so ∧ LabP w (2 * n) so (2 * n) La k
/-- no bit behind the cycles -/
def BtC (k : Int) (y : Int32) : Prop := ∀ s : Int32, s.toInt = k → k < 32 → (y.toUInt32 >>> (s.toUInt32 &&& Int32.toUInt32 31)).toInt32.toInt = 0
theorem Dr_bk {cI cR : ClassId} {jn : Nat} {g lv gr : Nat → Nat} {L : List Nat} {S : Sg} {f f1 f2 : Nat → va_E} {T n z : Int} {Ev : Int → Env1} {cb c1 : Nat → Option Nat} {tm tm1 : Int32} {r : Nat} {u : Int → Int} (hG : SG g L S) (hP : ∀ t l : Int, 0 ≤ t → t ≤ T → 0 ≤ l → l < 8 → Pg cI jn g lv gr S f cb (8 * t + l) (Ev t l)) (hT : tm.toInt = T) (hT0 : 0 ≤ T) (hX : FX S (fun _ => False) [12, 20, 21] f f1) (kt : tm1.toInt = tm.toInt + 1) (k1 : ∀ i9 : Int, 0 ≤ i9 → i9 < 8 * (tm.toInt + 1) → c1 i9.toNat = cb i9.toNat) (k2 : ∀ l9 : Int, 0 ≤ l9 → l9 < 8 → c1 (8 * (tm.toInt + 1) + l9).toNat = cb (8 * tm.toInt + l9).toNat) (hX2 : FX S (fun _ => False) [20] f1 f2) (hF2 : FR S [20] f1 f2) (k12 : f1 (g 12) = .inr (0, [.ref (g 20), .ref (g 21), .int tm1, .int tm1])) (k20 : f2 (g 20) = refs cR 488 (va_up c1 (8 * tm1.toInt + z).toNat (some r))) (hr : RWf cI jn S f r n u) (hn : 0 < n) (hN : ¬ NR g lv gr r) (z0 : 0 ≤ z) (z1 : z < 8) : BkR cI cR jn g lv gr S f2 (T + 1) (T + 1) (evp Ev (T + 1) (eup (Ev T) z (n, u))) := by
  have hx : ∀ r, ¬ NR g lv gr r → ¬ (fun _ : Nat => False) r := fun _ _ h => h
  refine ⟨_, tm1, tm1, k20, by rw [hF2 _ (by rw [gs_12 hG]; decide)]; exact k12, by omega, by omega, fun t l t0 t1 l0 l1 => ?_⟩
  by_cases e : t = T + 1
  · rw [e, ev_s]
    by_cases q : l = z
    · rw [q, eu_s]
      refine Or.inr ⟨r, ?_, hn, RWf_fx (RWf_fx hr hX (fun h => h) (by decide)) hX2 (fun h => h) (by decide), hN⟩
      rw [show (8 * (T + 1) + z).toNat = (8 * tm1.toInt + z).toNat by omega]
      exact va_up_self _ _ _
    · rw [eu_n q]
      refine Pg_cb (cb := c1) (i := 8 * (T + 1) + l) ?_ (va_up_ne _ _ (by omega))
      refine Pg_cb (cb := cb) (i := 8 * T + l) ?_ (by rw [← hT]; exact k2 l l0 l1)
      exact Pg_fx (Pg_fx (hP T l hT0 (Int.le_refl _) l0 l1) hX (by decide) hx) hX2 (by decide) hx
  · rw [ev_n e]
    refine Pg_cb (cb := c1) (i := 8 * t + l) ?_ (va_up_ne _ _ (by omega))
    refine Pg_cb (cb := cb) (i := 8 * t + l) ?_ (k1 _ (by omega) (by omega))
    exact Pg_fx (Pg_fx (hP t l t0 (by omega) l0 l1) hX (by decide) hx) hX2 (by decide) hx
set_option maxRecDepth 100000 in
set_option maxHeartbeats 4000000 in
theorem t_X10_dropm (l : Launch) (D : va_G) (cI cR cM : ClassId) (sz : Nat) {jn : Nat} {g : Nat → Nat} {L : List Nat} {S : Sg} {f : Nat → va_E} {x y v : Int32} {lv gr : Nat → Nat} {Ev : Int → Env1} {T9 lk9 : Int} {cb : Nat → Int32} {n9 : Int} (hj : 1 ≤ jn ∧ jn ≤ 3) (hG : SG g L S) (hI : IN jn cI cR cM g L S f) (hj1 : jn = 1) (hcl : CLS cI cR jn g lv gr L S f T9 lk9 Ev cb n9) (hEOa : ∀ t9 : Int, 0 ≤ t9 → t9 ≤ T9 → EOk (Ev t9)) : Met l yX10_drop wsX10_drop ({ frames := 5, cells := 2, slots := 148, locals := 109 }) (P0 D cI cR cM [.ref (g 10), .int x, .int y, .int v] sz (va_pl L f)) (QG (S := Int32 × List Nat × Sg × (Nat → va_E)) (fun u => some (.int u.1)) (fun u => va_pl (u.2.1) (u.2.2.2)) (fun u => EXT L S u.2.1 u.2.2.1 ∧ IN jn cI cR cM g u.2.1 u.2.2.1 u.2.2.2 ∧ FRX L S [0, 1, 12, 20, 21, 15, 27, 35, 36, 37, 38, 39] f (u.2.2.2) ∧ (Hd (((u.1).toInt = -1 ∧ (¬ DrK Ev T9 lk9 x.toInt v.toInt ∨ (DrK Ev T9 lk9 x.toInt v.toInt ∧ ∃ (La : Int → Int) (k : Int), DrL (Ev lk9 x.toInt).2 (Ev lk9 x.toInt).1 La k ∧ ¬ BtC k y)) ∧ CLS cI cR jn g lv gr (u.2.1) (u.2.2.1) (u.2.2.2) T9 lk9 Ev cb n9) ∨ ((u.1).toInt = T9 + 1 ∧ DrK Ev T9 lk9 x.toInt v.toInt ∧ ∃ (La : Int → Int) (k : Int), DrL (Ev lk9 x.toInt).2 (Ev lk9 x.toInt).1 La k ∧ BtC k y ∧ CLS cI cR jn g lv gr (u.2.1) (u.2.2.1) (u.2.2.2) (T9 + 1) (T9 + 1) (evp Ev (T9 + 1) (eup (Ev T9) v.toInt ((Ev lk9 x.toInt).1, drW (Ev lk9 x.toInt).2 (Dc La y)))) cb n9)))) D (va_A (va_pl L f) sz)) 2 148 (va_A (va_pl L f) sz) := by
  refine go (cc := cX10_drop) (maxL := 6) (ret := (some .int)) (by decide +kernel) rfl (Nat.le_of_ble_eq_true rfl) ?_
  intro p e s m below meth c ls args Q hQ hsz hx hb hr hml hts hown hlocks hnm hP hK hD hl
  subst hsz
  have hD := hD.self (sz := s.heap.size)
  generalize hAe : va_A (va_pl L f) s.heap.size = A at hD hQ
  have hA : ∀ q, s.heap.size ≤ q → A q := fun q h => by rw [← hAe]; exact Or.inr h
  have hS : va_S A s.heap s.heap [] := va_S.rf
  obtain ⟨L0, eL0⟩ : ∃ x, x = L := ⟨_, rfl⟩
  obtain ⟨S0, eS0⟩ : ∃ x, x = S := ⟨_, rfl⟩
  have hX : EXT L0 S0 L S := by rw [eL0, eS0]; exact EXT_rf
  have hF : FRX L0 S0 [0, 1, 12, 20, 21, 15, 27, 35, 36, 37, 38, 39] f f := FRX_rf
  have hl : lv_has ls 6 [(0, .ref (g 10)), (1, .int x), (2, .int y), (3, .int v)] := hl
  obtain ⟨cb0, tm0, lk0, q20, q12, qT, qlk, qP⟩ := hcl.1
  obtain ⟨iw0, iw1, iw2⟩ := iv_12 hI (gm_12 hG) (gs_12 hG) q12
  have hlk : 0 ≤ lk9 ∧ lk9 ≤ T9 := by omega
  refine lv_aload_n hx hb dX10_drop_0 rfl (lv_at hl 0 rfl) ?_
  have fg_1 := op_10 hI (gm_10 hG) (gs_10 hG)
  refine t_get (D := D) (L := L) (f := f) (ci := 10) (v := .ref (g 12)) (C := RX10) (T := TX10) (N := 8) hx hb hts (by decide +kernel) hown hK.1 hP (gm_10 hG) fg_1 rfl 2 (by decide) (hts (.fieldLink RX10 32 "JugglingHall" "book" "LJugglingHall$Book;") (by decide +kernel)) (fun _ h9 => h9) rfl dX10_drop_1 ?_
  refine lv_iload_n hx hb dX10_drop_4 rfl (lv_at hl 1 rfl) ?_
  obtain ⟨tm_2, lk_2, fg_2, iv0_2, iv1_2, iv2_2⟩ := op_12 hI (gm_12 hG) (gs_12 hG)
  refine roR (va_runV (As := [.int x]) (rest := []) ⟨hx, hb, hml, hown, hts⟩ (t_X0_rowSeenm l D cI cR cM _   hj hG hI  (by first | assumption | omega | (subst hj1; omega))) (cwV 1 hts gX10_drop_X0_rowSeen rfl rfl rfl (by decide +kernel) ⟨Nat.le_of_ble_eq_true rfl, Nat.le_of_ble_eq_true rfl⟩) (pre_T hK hP hD (gm_12 hG) fg_2 rfl) rfl rfl hl.1 rfl (lv_room (Nat.le_of_ble_eq_true rfl)) dX10_drop_5 ⟨Nat.le_of_ble_eq_true rfl, Nat.le_of_ble_eq_true rfl⟩) hS hA hP (fun w_3 H locs hw hP hS => ?_)
  obtain ⟨ho_3, he_3⟩ : (∀ z, w_3 = some z → ∃ p n, isRow L S z p n) ∧ ((¬ (0 ≤ x.toInt ∧ x.toInt < 8) ∧ w_3 = none) ∨ ((0 ≤ x.toInt ∧ x.toInt < 8) ∧ ∀ (c9 : Nat → Option Nat) (tm9 lk9 : Int32), f (g 20) = refs cR 488 c9 → f (g 12) = .inr (0, [.ref (g 20), .ref (g 21), .int tm9, .int lk9]) → w_3 = c9 (8 * lk9.toInt + x.toInt).toNat)) := hw
  rcases x_opt w_3 with e_4 | ⟨r_4, e_4⟩
  · subst e_4
    refine W.eq (g2 := F0 m 8 ls [.null]) rfl ?_
    have hl : lv_has ls 6 [(0, .ref (g 10)), (1, .int x), (2, .int y), (3, .int v)] := hl
    refine lv_astoreN (lv' := [(4, .null), (0, .ref (g 10)), (1, .int x), (2, .int y), (3, .int v)]) hx hb dX10_drop_8 hl (by decide) rfl (fun ls hl => ?_)
    have hz9 : ¬ DrK Ev T9 lk9 x.toInt v.toInt := fun q9 => by
      rcases he_3 with ⟨h8, -⟩ | ⟨h8, h9⟩
      · exact h8 q9.1
      · rcases BkR_at (w := none) hcl.1 hlk h8.1 h8.2 h9 with h7 | ⟨r9, h7, -⟩
        · have h6 := q9.2.2.2.1; omega
        · cases h7
    refine lv_iload_n hx hb dX10_drop_10 rfl (lv_at hl 4 rfl) ?_
    refine a_if_lt (u := v.toInt) (tgt := 47) hx hb dX10_drop_11 (by decide) (rfl) (fun c_5 => ?_) (fun c_5 => ?_)
    · refine lv_iconst (v := (-1)) hx hb dX10_drop_47 (by decide) ?_
      have hz_6 : (-1 : Int32).toInt = (-1) := by decide
      exact g_iret ((-1 : Int32), L, S, f) hx hb hr hlocks hS rfl (⟨EXT_c eL0 eS0 hX, hI, FRX_c eL0 eS0 hF, (Or.inl ⟨rfl, Or.inl hz9, hcl⟩)⟩) hP hD hQ (Nat.le_of_ble_eq_true rfl) (Nat.le_of_ble_eq_true rfl) dX10_drop_48
    · refine lv_iload_n hx hb dX10_drop_14 rfl (lv_at hl 4 rfl) ?_
      refine lv_bipush (v := 8) hx hb dX10_drop_15 (by decide) ?_
      refine a_icmp_ge (u := v.toInt) (v := 8) (tgt := 47) hx hb dX10_drop_17 (by decide) (rfl) (by decide) (fun c_7 => ?_) (fun c_7 => ?_)
      · refine lv_iconst (v := (-1)) hx hb dX10_drop_47 (by decide) ?_
        have hz_8 : (-1 : Int32).toInt = (-1) := by decide
        exact g_iret ((-1 : Int32), L, S, f) hx hb hr hlocks hS rfl (⟨EXT_c eL0 eS0 hX, hI, FRX_c eL0 eS0 hF, (Or.inl ⟨rfl, Or.inl hz9, hcl⟩)⟩) hP hD hQ (Nat.le_of_ble_eq_true rfl) (Nat.le_of_ble_eq_true rfl) dX10_drop_48
      · refine lv_aload_n hx hb dX10_drop_20 rfl (lv_at hl 1 rfl) ?_
        refine t_get (D := D) (L := L) (f := f) (ci := 10) (v := .ref (g 12)) (C := RX10) (T := TX10) (N := 8) hx hb hts (by decide +kernel) hown hK.1 hP (gm_10 hG) fg_1 rfl 2 (by decide) (hts (.fieldLink RX10 32 "JugglingHall" "book" "LJugglingHall$Book;") (by decide +kernel)) (fun _ h9 => h9) rfl dX10_drop_21 ?_
        refine roP (va_runV (As := []) (rest := []) ⟨hx, hb, hml, hown, hts⟩ (t_X0_isFullm l D cI cR cM _   hj hG hI  ) (cwV 0 hts gX10_drop_X0_isFull rfl rfl rfl (by decide +kernel) ⟨Nat.le_of_ble_eq_true rfl, Nat.le_of_ble_eq_true rfl⟩) (pre_T hK hP hD (gm_12 hG) fg_2 rfl) rfl rfl hl.1 rfl (lv_room (Nat.le_of_ble_eq_true rfl)) dX10_drop_24 ⟨Nat.le_of_ble_eq_true rfl, Nat.le_of_ble_eq_true rfl⟩) hS hA hP (fun r_9 H locs hw hP hS => ?_)
        obtain ⟨hb_9, h01_9⟩ : (∀ tm lk, f (g 12) = .inr (0, [.ref (g 20), .ref (g 21), .int tm, .int lk]) → (r_9.toInt = 0 ∧ tm.toInt < 60) ∨ (r_9.toInt = 1 ∧ 60 ≤ tm.toInt)) ∧ (r_9.toInt = 0 ∨ r_9.toInt = 1) := hw
        have hfl := hb_9 _ _ q12
        have hfl2 : (r_9.toInt = 0 ∧ T9 < 60) ∨ (r_9.toInt = 1 ∧ 60 ≤ T9) := by rw [← qT]; exact hfl
        clear hfl
        refine a_if_ne (u := r_9.toInt) (tgt := 47) hx hb dX10_drop_27 (by decide) (rfl) (fun c_10 => ?_) (fun c_10 => ?_)
        · refine lv_iconst (v := (-1)) hx hb dX10_drop_47 (by decide) ?_
          have hz_11 : (-1 : Int32).toInt = (-1) := by decide
          exact g_iret ((-1 : Int32), L, S, f) hx hb hr hlocks hS rfl (⟨EXT_c eL0 eS0 hX, hI, FRX_c eL0 eS0 hF, (Or.inl ⟨rfl, Or.inl hz9, hcl⟩)⟩) hP hD hQ (Nat.le_of_ble_eq_true rfl) (Nat.le_of_ble_eq_true rfl) dX10_drop_48
        · refine lv_aloadN hx hb dX10_drop_30 (lv_at hl 0 rfl) ?_
          refine lv_ifnullN (tgt := 47) hx hb dX10_drop_32 (by decide) ?_
          refine lv_iconst (v := (-1)) hx hb dX10_drop_47 (by decide) ?_
          have hz_12 : (-1 : Int32).toInt = (-1) := by decide
          exact g_iret ((-1 : Int32), L, S, f) hx hb hr hlocks hS rfl (⟨EXT_c eL0 eS0 hX, hI, FRX_c eL0 eS0 hF, (Or.inl ⟨rfl, Or.inl hz9, hcl⟩)⟩) hP hD hQ (Nat.le_of_ble_eq_true rfl) (Nat.le_of_ble_eq_true rfl) dX10_drop_48
  · subst e_4
    refine W.eq (g2 := F0 m 8 ls [.ref r_4]) rfl ?_
    have hl : lv_has ls 6 [(0, .ref (g 10)), (1, .int x), (2, .int y), (3, .int v)] := hl
    obtain ⟨p_13, n_13, m_13, s_13⟩ := ho_3 _ rfl
    refine lv_astore (lv' := [(4, .ref r_4), (0, .ref (g 10)), (1, .int x), (2, .int y), (3, .int v)]) hx hb dX10_drop_8 hl (by decide) rfl (fun ls hl => ?_)
    obtain ⟨len_14, fg_14, v1_14, v2_14, v3_14, mp_14, sp_14⟩ := op_0 hI m_13 s_13
    obtain ⟨w1_14, w2_14, w3_14, w4_14, w5_14⟩ := lenw hj v1_14 v2_14 v3_14
    obtain ⟨c_15, fg_15, iv0_15⟩ := op_1 hI mp_14 sp_14
    have hx8 : 0 ≤ x.toInt ∧ x.toInt < 8 := by
      rcases he_3 with ⟨-, h8⟩ | ⟨h8, -⟩
      · cases h8
      · exact h8
    obtain ⟨r9, hr9, hn0, hr8, -⟩ := (BkR_at (w := some r_4) hcl.1 hlk hx8.1 hx8.2 (he_3.elim (fun h8 => absurd hx8 h8.1) (fun h8 => h8.2))).resolve_left (fun q9 => by cases q9.1)
    cases hr9
    obtain ⟨hn1, hn2⟩ := RWf_at hr8 s_13 fg_14 fg_15
    have hn3 := (hEOa lk9 (by subst hj1; omega) (by subst hj1; omega) x.toInt hx8.1 hx8.2).2.1
    have hn4 := (hEOa lk9 (by subst hj1; omega) (by subst hj1; omega) x.toInt hx8.1 hx8.2).2.2
    refine lv_iload_n hx hb dX10_drop_10 rfl (lv_at hl 4 rfl) ?_
    refine a_if_lt (u := v.toInt) (tgt := 47) hx hb dX10_drop_11 (by decide) (rfl) (fun c_16 => ?_) (fun c_16 => ?_)
    · refine lv_iconst (v := (-1)) hx hb dX10_drop_47 (by decide) ?_
      have hz_17 : (-1 : Int32).toInt = (-1) := by decide
      exact g_iret ((-1 : Int32), L, S, f) hx hb hr hlocks hS rfl (⟨EXT_c eL0 eS0 hX, hI, FRX_c eL0 eS0 hF, (Or.inl ⟨rfl, Or.inl (fun q9 => by have h9 := q9.2.1; omega), hcl⟩)⟩) hP hD hQ (Nat.le_of_ble_eq_true rfl) (Nat.le_of_ble_eq_true rfl) dX10_drop_48
    · refine lv_iload_n hx hb dX10_drop_14 rfl (lv_at hl 4 rfl) ?_
      refine lv_bipush (v := 8) hx hb dX10_drop_15 (by decide) ?_
      refine a_icmp_ge (u := v.toInt) (v := 8) (tgt := 47) hx hb dX10_drop_17 (by decide) (rfl) (by decide) (fun c_18 => ?_) (fun c_18 => ?_)
      · refine lv_iconst (v := (-1)) hx hb dX10_drop_47 (by decide) ?_
        have hz_19 : (-1 : Int32).toInt = (-1) := by decide
        exact g_iret ((-1 : Int32), L, S, f) hx hb hr hlocks hS rfl (⟨EXT_c eL0 eS0 hX, hI, FRX_c eL0 eS0 hF, (Or.inl ⟨rfl, Or.inl (fun q9 => by have h9 := q9.2.1; omega), hcl⟩)⟩) hP hD hQ (Nat.le_of_ble_eq_true rfl) (Nat.le_of_ble_eq_true rfl) dX10_drop_48
      · refine lv_aload_n hx hb dX10_drop_20 rfl (lv_at hl 1 rfl) ?_
        refine t_get (D := D) (L := L) (f := f) (ci := 10) (v := .ref (g 12)) (C := RX10) (T := TX10) (N := 8) hx hb hts (by decide +kernel) hown hK.1 hP (gm_10 hG) fg_1 rfl 2 (by decide) (hts (.fieldLink RX10 32 "JugglingHall" "book" "LJugglingHall$Book;") (by decide +kernel)) (fun _ h9 => h9) rfl dX10_drop_21 ?_
        refine roP (va_runV (As := []) (rest := []) ⟨hx, hb, hml, hown, hts⟩ (t_X0_isFullm l D cI cR cM _   hj hG hI  ) (cwV 0 hts gX10_drop_X0_isFull rfl rfl rfl (by decide +kernel) ⟨Nat.le_of_ble_eq_true rfl, Nat.le_of_ble_eq_true rfl⟩) (pre_T hK hP hD (gm_12 hG) fg_2 rfl) rfl rfl hl.1 rfl (lv_room (Nat.le_of_ble_eq_true rfl)) dX10_drop_24 ⟨Nat.le_of_ble_eq_true rfl, Nat.le_of_ble_eq_true rfl⟩) hS hA hP (fun r_20 H locs hw hP hS => ?_)
        obtain ⟨hb_20, h01_20⟩ : (∀ tm lk, f (g 12) = .inr (0, [.ref (g 20), .ref (g 21), .int tm, .int lk]) → (r_20.toInt = 0 ∧ tm.toInt < 60) ∨ (r_20.toInt = 1 ∧ 60 ≤ tm.toInt)) ∧ (r_20.toInt = 0 ∨ r_20.toInt = 1) := hw
        have hfl := hb_20 _ _ q12
        have hfl2 : (r_20.toInt = 0 ∧ T9 < 60) ∨ (r_20.toInt = 1 ∧ 60 ≤ T9) := by rw [← qT]; exact hfl
        clear hfl
        refine a_if_ne (u := r_20.toInt) (tgt := 47) hx hb dX10_drop_27 (by decide) (rfl) (fun c_21 => ?_) (fun c_21 => ?_)
        · refine lv_iconst (v := (-1)) hx hb dX10_drop_47 (by decide) ?_
          have hz_22 : (-1 : Int32).toInt = (-1) := by decide
          exact g_iret ((-1 : Int32), L, S, f) hx hb hr hlocks hS rfl (⟨EXT_c eL0 eS0 hX, hI, FRX_c eL0 eS0 hF, (Or.inl ⟨rfl, Or.inl (fun q9 => by have h9 := q9.2.2.1; omega), hcl⟩)⟩) hP hD hQ (Nat.le_of_ble_eq_true rfl) (Nat.le_of_ble_eq_true rfl) dX10_drop_48
        · refine lv_aload hx hb dX10_drop_30 (lv_at hl 0 rfl) ?_
          refine lv_ifnull hx hb dX10_drop_32 ?_
          refine lv_aload_n hx hb dX10_drop_35 rfl (lv_at hl 1 rfl) ?_
          refine t_get (D := D) (L := L) (f := f) (ci := 10) (v := .ref (g 15)) (C := RX10) (T := TX10) (N := 8) hx hb hts (by decide +kernel) hown hK.1 hP (gm_10 hG) fg_1 rfl 4 (by decide) (hts (.fieldLink RX10 53 "JugglingHall" "catches" "LJugglingHall$Catches;") (by decide +kernel)) (fun _ h9 => h9) rfl dX10_drop_36 ?_
          refine lv_aload hx hb dX10_drop_39 (lv_at hl 0 rfl) ?_
          obtain ⟨cnt_23, rw_23, fg_23, iv0_23, iv1_23, iv2_23⟩ := op_15 hI (gm_15 hG) (gs_15 hG)
          refine call_p (va_runV (As := [.ref r_4]) (rest := []) ⟨hx, hb, hml, hown, hts⟩ (t_X1_leadm l D cI cR cM _ (w := (Ev lk9 x.toInt).2)  hj hG hI m_13 s_13 fg_14 fg_15 (by first | assumption | omega | (subst hj1; omega)) (by rw [hn1]; exact hn2) (by subst hj1; omega) (by rw [hn1]; exact hn4)) (cwV 1 hts gX10_drop_X1_lead rfl rfl rfl (by decide +kernel) ⟨Nat.le_of_ble_eq_true rfl, Nat.le_of_ble_eq_true rfl⟩) (pre_T hK hP hD (gm_15 hG) fg_23 rfl) rfl rfl hl.1 rfl (lv_room (Nat.le_of_ble_eq_true rfl)) dX10_drop_41 ⟨Nat.le_of_ble_eq_true rfl, Nat.le_of_ble_eq_true rfl⟩) hD hS hA (fun u_24 H locs hw hP hD hS => ?_)
          obtain ⟨r_24, f_24⟩ := u_24
          obtain ⟨hI, hF_24, hp_24, hfx_24, h01_24⟩ : IN jn cI cR cM g L S f_24 ∧ FR S [15, 27, 35, 36, 37, 38, 39] f f_24 ∧ (Hd ((r_24.toInt = 1 ∧ GdW (Ev lk9 x.toInt).2 len_14.toInt ∧ ∃ (k9 : Int32) (so La : Int → Int), f_24 (g 15) = .inr (1, [.ref (g 35), .ref (g 27), .ref (g 36), .ref (g 37), .ref (g 38), .ref (g 39), .int k9, va_rf (some r_4)]) ∧ Arf cI f_24 (g 27) so (2 * len_14.toInt) ∧ SrcF (Ev lk9 x.toInt).2 len_14.toInt so ∧ Arf cI f_24 (g 36) La (2 * len_14.toInt) ∧ LabP (Ev lk9 x.toInt).2 (2 * len_14.toInt) so (2 * len_14.toInt) La k9.toInt) ∨ (r_24.toInt = 0 ∧ ¬ GdW (Ev lk9 x.toInt).2 len_14.toInt))) ∧ (FX S (fun _ => False) [15, 27, 35, 36, 37, 38, 39] f f_24) ∧ (r_24.toInt = 0 ∨ r_24.toInt = 1) := hw
          have hP : va_P D vwCl (va_pl L f_24) H := hP
          have hD : va_D A (va_pl L f_24) := hD
          have hF := FRX_tr hF hX hF_24 (by decide)
          have fb_25 : f_24 (g 10) = .inr (10, [.int (nI jn), .ref (g 11), .ref (g 12), .ref (g 13), .ref (g 15), .ref (g 16), .ref (g 17), .ref (g 18)]) := FR_at hF_24 (gs_10 hG) (show (10 : Nat) ∉ ([15, 27, 35, 36, 37, 38, 39] : List Nat) by decide) fg_1
          have fb_26 : f_24 (g 12) = .inr (0, [.ref (g 20), .ref (g 21), .int tm_2, .int lk_2]) := FR_at hF_24 (gs_12 hG) (show (12 : Nat) ∉ ([15, 27, 35, 36, 37, 38, 39] : List Nat) by decide) fg_2
          have fb_27 : f_24 r_4 = .inr (5, [.int (nI jn), .int (nI (2 * jn)), .ref p_13, .int len_14]) := FR_at hF_24 s_13 (show (0 : Nat) ∉ ([15, 27, 35, 36, 37, 38, 39] : List Nat) by decide) fg_14
          have fb_28 : f_24 p_13 = .inl (cI, n_13, .inl c_15) := FR_at hF_24 sp_14 (show (1 : Nat) ∉ ([15, 27, 35, 36, 37, 38, 39] : List Nat) by decide) fg_15
          refine a_if_ne (u := r_24.toInt) (tgt := 49) hx hb dX10_drop_44 (by decide) (rfl) (fun c_29 => ?_) (fun c_29 => ?_)
          · obtain ⟨-, hGd, k9_, so_, La_, fc15, hs27, hSF, hc36, hLP⟩ := hp_24.resolve_right (fun q9 => by have h9 := q9.1; omega)
            obtain ⟨v1_k, v2_k, v3_k⟩ := iv_15 hI (gm_15 hG) (gs_15 hG) fc15
            have hcl1 := CLS_fr hcl hG hF_24 (by decide)
            have hDL : DrL (Ev lk9 x.toInt).2 (Ev lk9 x.toInt).1 La_ k9_.toInt := ⟨so_, by rw [← hn1]; exact hSF, by rw [← hn1]; exact hLP⟩
            have hDK : DrK Ev T9 lk9 x.toInt v.toInt := ⟨hx8, by omega, by omega, hn0, by rw [← hn1]; exact hGd⟩
            refine lv_aload_n hx hb dX10_drop_49 rfl (lv_at hl 1 rfl) ?_
            refine t_get (D := D) (L := L) (f := f_24) (ci := 10) (v := .ref (g 15)) (C := RX10) (T := TX10) (N := 8) hx hb hts (by decide +kernel) hown hK.1 hP (gm_10 hG) fb_25 rfl 4 (by decide) (hts (.fieldLink RX10 53 "JugglingHall" "catches" "LJugglingHall$Catches;") (by decide +kernel)) (fun _ h9 => h9) rfl dX10_drop_50 ?_
            refine t_getN (D := D) (L := L) (f := f_24) (ci := 1) (v := .int k9_) (C := RX1) (T := TX1) (N := 8) (host := "JugglingHall") hx hb hts (by decide +kernel) hown hK.1 hP (gm_15 hG) fc15 rfl 6 (by decide) (hK.nw (.fieldLinkNest RX10 153 "JugglingHall$Catches" "count" "I" "JugglingHall") (by decide +kernel) rfl) (fun _ h9 => h9) rfl dX10_drop_53 ?_
            refine lv_bipush (v := 32) hx hb dX10_drop_56 (by decide) ?_
            refine a_icmp_ge (u := k9_.toInt) (v := 32) (tgt := 75) hx hb dX10_drop_58 (by decide) (rfl) (by decide) (fun c_30 => ?_) (fun c_30 => ?_)
            · have hBt : BtC k9_.toInt y := fun s9 h8 h9 => absurd h9 (by subst hj1; omega)
              refine lv_aload_n hx hb dX10_drop_75 rfl (lv_at hl 1 rfl) ?_
              refine t_get (D := D) (L := L) (f := f_24) (ci := 10) (v := .ref (g 15)) (C := RX10) (T := TX10) (N := 8) hx hb hts (by decide +kernel) hown hK.1 hP (gm_10 hG) fb_25 rfl 4 (by decide) (hts (.fieldLink RX10 53 "JugglingHall" "catches" "LJugglingHall$Catches;") (by decide +kernel)) (fun _ h9 => h9) rfl dX10_drop_76 ?_
              refine lv_iload_n hx hb dX10_drop_79 rfl (lv_at hl 3 rfl) ?_
              have hGo := hG
              have hIo := hI
              refine call_p (va_runV (As := [.int y]) (rest := []) ⟨hx, hb, hml, hown, hts⟩ (t_X1_withoutm l D cI cR cM _ (w := (Ev lk9 x.toInt).2) (La := La_)  hj hG hI fc15 m_13 s_13 fb_27 fb_28 (by first | assumption | omega | (subst hj1; omega)) (by rw [hn1]; exact hn2) (by subst hj1; omega) (by rw [hn1]; exact hn4) (hc36) (hcl1.2.2.2.2.2.1)) (cwV 1 hts gX10_drop_X1_without rfl rfl rfl (by decide +kernel) ⟨Nat.le_of_ble_eq_true rfl, Nat.le_of_ble_eq_true rfl⟩) (pre_T hK hP hD (gm_15 hG) fc15 rfl) rfl rfl hl.1 rfl (lv_room (Nat.le_of_ble_eq_true rfl)) dX10_drop_80 ⟨Nat.le_of_ble_eq_true rfl, Nat.le_of_ble_eq_true rfl⟩) hD hS hA (fun u_31 H locs hw hP hD hS => ?_)
              obtain ⟨r_31, L, S, f_31⟩ := u_31
              dsimp only at hw hP hD
              obtain ⟨hX_31, hI_31, hF_31, ho_31, hcp_31, hnew_31, hOW_31⟩ := hw
              have fb_32 : f_31 (g 10) = .inr (10, [.int (nI jn), .ref (g 11), .ref (g 12), .ref (g 13), .ref (g 15), .ref (g 16), .ref (g 17), .ref (g 18)]) := FRX_at hF_31 (gm_10 hG) (gs_10 hG) (show (10 : Nat) ∉ ([] : List Nat) by decide) fb_25
              have fb_33 : f_31 (g 12) = .inr (0, [.ref (g 20), .ref (g 21), .int tm_2, .int lk_2]) := FRX_at hF_31 (gm_12 hG) (gs_12 hG) (show (12 : Nat) ∉ ([] : List Nat) by decide) fb_26
              have fb_34 : f_31 r_4 = .inr (5, [.int (nI jn), .int (nI (2 * jn)), .ref p_13, .int len_14]) := FRX_at hF_31 m_13 s_13 (show (0 : Nat) ∉ ([] : List Nat) by decide) fb_27
              have fb_35 : f_31 p_13 = .inl (cI, n_13, .inl c_15) := FRX_at hF_31 mp_14 sp_14 (show (1 : Nat) ∉ ([] : List Nat) by decide) fb_28
              have fb_36 : f_31 (g 15) = .inr (1, [.ref (g 35), .ref (g 27), .ref (g 36), .ref (g 37), .ref (g 38), .ref (g 39), .int k9_, va_rf (some r_4)]) := FRX_at hF_31 (gm_15 hG) (gs_15 hG) (show (15 : Nat) ∉ ([] : List Nat) by decide) fc15
              have su_37 := (hX_31 _ m_13).2.trans s_13
              have mu_37 := (hX_31 _ m_13).1
              have su_38 := (hX_31 _ mp_14).2.trans sp_14
              have mu_38 := (hX_31 _ mp_14).1
              have hF := FRX_trX hF hX hF_31 (by decide)
              have hX := EXT_tr hX hX_31
              have hG := SG_ext hX_31 hG
              have hI := hI_31
              refine W.widen (k := 2) (n := 148) (Nat.le_of_ble_eq_true rfl) (Nat.le_of_ble_eq_true rfl) ?_
              obtain ⟨p_39, n_39, m_39, s_39⟩ := ho_31
              rw [hn1] at hcp_31
              have hBk2 := BkR_ext hcl1.1 hGo hIo hX_31 hF_31 (by decide) (by subst hj1; omega)
              have hTp2 := TpC_x hcl1.2.1 hGo hF_31 (by decide)
              have hLv2 := LvC_x hcl1.2.2.1 hGo hF_31 (by decide)
              have hGr2 := GrC_x hcl1.2.2.2.1 hGo hF_31 (by decide)
              have hRD2 := RDC_ext hcl1.2.2.2.2.1 hX_31 hcl1.2.2.2.2.2.2
              have hNL2 : ∀ a9, NR g lv gr a9 → a9 ∈ L := fun a9 h9 => (hX_31 a9 (hcl1.2.2.2.2.2.2 a9 h9)).1
              have hNr2 : ¬ NR g lv gr r_31 := fun q9 => hnew_31 (hcl1.2.2.2.2.2.2 _ q9)
              obtain ⟨cb2, tm2, lk2, p20, p12, pT, plk, pP⟩ := hBk2
              refine lv_astore (lv' := [(5, .ref r_31), (4, .ref r_4), (0, .ref (g 10)), (1, .int x), (2, .int y), (3, .int v)]) hx hb dX10_drop_83 hl (by decide) rfl (fun ls hl => ?_)
              refine lv_aload_n hx hb dX10_drop_85 rfl (lv_at hl 2 rfl) ?_
              refine t_get (D := D) (L := L) (f := f_31) (ci := 10) (v := .ref (g 12)) (C := RX10) (T := TX10) (N := 8) hx hb hts (by decide +kernel) hown hK.1 hP (gm_10 hG) fb_32 rfl 2 (by decide) (hts (.fieldLink RX10 32 "JugglingHall" "book" "LJugglingHall$Book;") (by decide +kernel)) (fun _ h9 => h9) rfl dX10_drop_86 ?_
              refine call_p (va_runV (As := []) (rest := []) ⟨hx, hb, hml, hown, hts⟩ (t_X0_turnPagem l D cI cR cM _ (cb := cb2) (tm := tm2) (lk := lk2)  hj hG hI  (by first | assumption | omega | (subst hj1; omega)) (p20) (p12) (by subst hj1; omega)) (cwV 0 hts gX10_drop_X0_turnPage rfl rfl rfl (by decide +kernel) ⟨Nat.le_of_ble_eq_true rfl, Nat.le_of_ble_eq_true rfl⟩) (pre_T hK hP hD (gm_12 hG) fb_33 rfl) rfl rfl hl.1 rfl (lv_room (Nat.le_of_ble_eq_true rfl)) dX10_drop_89 ⟨Nat.le_of_ble_eq_true rfl, Nat.le_of_ble_eq_true rfl⟩) hD hS hA (fun u_40 H locs hw hP hD hS => ?_)
              obtain ⟨f_40, e0_40⟩ : ∃ x, x = u_40 := ⟨_, rfl⟩
              subst e0_40
              obtain ⟨hI, hF_40, hp_40, hfx_40⟩ : IN jn cI cR cM g L S f_40 ∧ FR S [12, 20, 21] f_31 f_40 ∧ (∃ (c1 : Nat → Option Nat) (tm1 : Int32), f_40 (g 20) = refs cR 488 c1 ∧ f_40 (g 12) = .inr (0, [.ref (g 20), .ref (g 21), .int tm1, .int tm1]) ∧ tm1.toInt = tm2.toInt + 1 ∧ (∀ i9 : Int, 0 ≤ i9 → i9 < 8 * (tm2.toInt + 1) → c1 i9.toNat = cb2 i9.toNat) ∧ ∀ l9 : Int, 0 ≤ l9 → l9 < 8 → c1 (8 * (tm2.toInt + 1) + l9).toNat = cb2 (8 * tm2.toInt + l9).toNat) ∧ (FX S (fun _ => False) [12, 20, 21] f_31 f_40) := hw
              have hP : va_P D vwCl (va_pl L f_40) H := hP
              have hD : va_D A (va_pl L f_40) := hD
              have hF := FRX_tr hF hX hF_40 (by decide)
              have fb_41 : f_40 (g 10) = .inr (10, [.int (nI jn), .ref (g 11), .ref (g 12), .ref (g 13), .ref (g 15), .ref (g 16), .ref (g 17), .ref (g 18)]) := FR_at hF_40 (gs_10 hG) (show (10 : Nat) ∉ ([12, 20, 21] : List Nat) by decide) fb_32
              have fb_42 : f_40 r_4 = .inr (5, [.int (nI jn), .int (nI (2 * jn)), .ref p_13, .int len_14]) := FR_at hF_40 su_37 (show (0 : Nat) ∉ ([12, 20, 21] : List Nat) by decide) fb_34
              have fb_43 : f_40 p_13 = .inl (cI, n_13, .inl c_15) := FR_at hF_40 su_38 (show (1 : Nat) ∉ ([12, 20, 21] : List Nat) by decide) fb_35
              have fb_44 : f_40 (g 15) = .inr (1, [.ref (g 35), .ref (g 27), .ref (g 36), .ref (g 37), .ref (g 38), .ref (g 39), .int k9_, va_rf (some r_4)]) := FR_at hF_40 (gs_15 hG) (show (15 : Nat) ∉ ([12, 20, 21] : List Nat) by decide) fb_36
              obtain ⟨c1_, tm1_, k20, k12, kt, k1, k2⟩ := hp_40
              refine lv_aload_n hx hb dX10_drop_92 rfl (lv_at hl 2 rfl) ?_
              refine t_get (D := D) (L := L) (f := f_40) (ci := 10) (v := .ref (g 12)) (C := RX10) (T := TX10) (N := 8) hx hb hts (by decide +kernel) hown hK.1 hP (gm_10 hG) fb_41 rfl 2 (by decide) (hts (.fieldLink RX10 32 "JugglingHall" "book" "LJugglingHall$Book;") (by decide +kernel)) (fun _ h9 => h9) rfl dX10_drop_93 ?_
              refine lv_iload_n hx hb dX10_drop_96 rfl (lv_at hl 5 rfl) ?_
              refine lv_aload hx hb dX10_drop_97 (lv_at hl 0 rfl) ?_
              obtain ⟨tm_45, lk_45, fg_45, iv0_45, iv1_45, iv2_45⟩ := op_12 hI (gm_12 hG) (gs_12 hG)
              obtain ⟨len_46, fg_46, v1_46, v2_46, v3_46, mp_46, sp_46⟩ := op_0 hI m_39 s_39
              obtain ⟨w1_46, w2_46, w3_46, w4_46, w5_46⟩ := lenw hj v1_46 v2_46 v3_46
              obtain ⟨c_47, fg_47, iv0_47⟩ := op_1 hI mp_46 sp_46
              refine call_p (va_runV (As := [.int v, .ref r_31]) (rest := []) ⟨hx, hb, hml, hown, hts⟩ (t_X0_writeRowm l D cI cR cM _ (cb := c1_) (tm := tm1_) (lk := tm1_)  hj hG hI m_39 s_39 fg_46 fg_47 (by first | assumption | omega | (subst hj1; omega)) (k20) (k12) (by subst hj1; omega)) (cwV 2 hts gX10_drop_X0_writeRow rfl rfl rfl (by decide +kernel) ⟨Nat.le_of_ble_eq_true rfl, Nat.le_of_ble_eq_true rfl⟩) (pre_T hK hP hD (gm_12 hG) fg_45 rfl) rfl rfl hl.1 rfl (lv_room (Nat.le_of_ble_eq_true rfl)) dX10_drop_99 ⟨Nat.le_of_ble_eq_true rfl, Nat.le_of_ble_eq_true rfl⟩) hD hS hA (fun u_48 H locs hw hP hD hS => ?_)
              obtain ⟨f_48, e0_48⟩ : ∃ x, x = u_48 := ⟨_, rfl⟩
              subst e0_48
              obtain ⟨hI, hF_48, hp_48, hfx_48⟩ : IN jn cI cR cM g L S f_48 ∧ FR S [20] f_40 f_48 ∧ (f_48 (g 20) = refs cR 488 (va_up c1_ (8 * tm1_.toInt + v.toInt).toNat (some r_31))) ∧ (FX S (fun _ => False) [20] f_40 f_48) := hw
              have hP : va_P D vwCl (va_pl L f_48) H := hP
              have hD : va_D A (va_pl L f_48) := hD
              have hF := FRX_tr hF hX hF_48 (by decide)
              have fb_49 : f_48 (g 10) = .inr (10, [.int (nI jn), .ref (g 11), .ref (g 12), .ref (g 13), .ref (g 15), .ref (g 16), .ref (g 17), .ref (g 18)]) := FR_at hF_48 (gs_10 hG) (show (10 : Nat) ∉ ([20] : List Nat) by decide) fb_41
              have fb_50 : f_48 r_4 = .inr (5, [.int (nI jn), .int (nI (2 * jn)), .ref p_13, .int len_14]) := FR_at hF_48 su_37 (show (0 : Nat) ∉ ([20] : List Nat) by decide) fb_42
              have fb_51 : f_48 p_13 = .inl (cI, n_13, .inl c_15) := FR_at hF_48 su_38 (show (1 : Nat) ∉ ([20] : List Nat) by decide) fb_43
              have fb_52 : f_48 (g 15) = .inr (1, [.ref (g 35), .ref (g 27), .ref (g 36), .ref (g 37), .ref (g 38), .ref (g 39), .int k9_, va_rf (some r_4)]) := FR_at hF_48 (gs_15 hG) (show (15 : Nat) ∉ ([20] : List Nat) by decide) fb_44
              have fb_53 : f_48 (g 12) = .inr (0, [.ref (g 20), .ref (g 21), .int tm_45, .int lk_45]) := FR_at hF_48 (gs_12 hG) (show (12 : Nat) ∉ ([20] : List Nat) by decide) fg_45
              have fb_54 : f_48 r_31 = .inr (5, [.int (nI jn), .int (nI (2 * jn)), .ref p_39, .int len_46]) := FR_at hF_48 s_39 (show (0 : Nat) ∉ ([20] : List Nat) by decide) fg_46
              have fb_55 : f_48 p_39 = .inl (cI, n_39, .inl c_47) := FR_at hF_48 sp_46 (show (1 : Nat) ∉ ([20] : List Nat) by decide) fg_47
              refine lv_aload_n hx hb dX10_drop_102 rfl (lv_at hl 2 rfl) ?_
              refine t_get (D := D) (L := L) (f := f_48) (ci := 10) (v := .ref (g 12)) (C := RX10) (T := TX10) (N := 8) hx hb hts (by decide +kernel) hown hK.1 hP (gm_10 hG) fb_49 rfl 2 (by decide) (hts (.fieldLink RX10 32 "JugglingHall" "book" "LJugglingHall$Book;") (by decide +kernel)) (fun _ h9 => h9) rfl dX10_drop_103 ?_
              have htmz := f12_at (by first | exact k12 | (rw [hF_48 _ (by rw [gs_12 hG]; decide)]; exact k12)) fb_53
              refine t_getN (D := D) (L := L) (f := f_48) (ci := 0) (v := .int tm_45) (C := RX0) (T := TX0) (N := 4) (host := "JugglingHall") hx hb hts (by decide +kernel) hown hK.1 hP (gm_12 hG) fb_53 rfl 2 (by decide) (hK.nw (.fieldLinkNest RX10 99 "JugglingHall$Book" "time" "I" "JugglingHall") (by decide +kernel) rfl) (fun _ h9 => h9) rfl dX10_drop_106 ?_
              exact g_iret (tm_45, L, S, f_48) hx hb hr hlocks hS rfl (⟨EXT_c eL0 eS0 hX, hI, FRX_c eL0 eS0 hF, (Or.inr ⟨by show tm_45.toInt = T9 + 1; omega, hDK, La_, _, hDL, hBt, Dr_bk hG pP pT (by subst hj1; omega) hfx_40 kt k1 k2 hfx_48 hF_48 k12 hp_48 hcp_31 hn0 hNr2 (by subst hj1; omega) (by subst hj1; omega), TpC_fr (TpC_fr hTp2 hG hF_40 (by decide)) hG hF_48 (by decide), LvC_fr (LvC_fr hLv2 hG hF_40 (by decide)) hG hF_48 (by decide), GrC_fr (GrC_fr hGr2 hG hF_40 (by decide)) hG hF_48 (by decide), hRD2, hOW_31, hNL2⟩)⟩) hP hD hQ (Nat.le_of_ble_eq_true rfl) (Nat.le_of_ble_eq_true rfl) dX10_drop_109
            · refine lv_iload_n hx hb dX10_drop_61 rfl (lv_at hl 3 rfl) ?_
              refine lv_aload_n hx hb dX10_drop_62 rfl (lv_at hl 1 rfl) ?_
              refine t_get (D := D) (L := L) (f := f_24) (ci := 10) (v := .ref (g 15)) (C := RX10) (T := TX10) (N := 8) hx hb hts (by decide +kernel) hown hK.1 hP (gm_10 hG) fb_25 rfl 4 (by decide) (hts (.fieldLink RX10 53 "JugglingHall" "catches" "LJugglingHall$Catches;") (by decide +kernel)) (fun _ h9 => h9) rfl dX10_drop_63 ?_
              refine t_getN (D := D) (L := L) (f := f_24) (ci := 1) (v := .int k9_) (C := RX1) (T := TX1) (N := 8) (host := "JugglingHall") hx hb hts (by decide +kernel) hown hK.1 hP (gm_15 hG) fc15 rfl 6 (by decide) (hK.nw (.fieldLinkNest RX10 153 "JugglingHall$Catches" "count" "I" "JugglingHall") (by decide +kernel) rfl) (fun _ h9 => h9) rfl dX10_drop_66 ?_
              refine lv_iushr hx hb dX10_drop_69 rfl ?_
              refine lv_topi (fun z_56 q_56 => ?_)
              refine a_if_eq (u := z_56.toInt) (tgt := 75) hx hb dX10_drop_70 (by decide) (rfl) (fun c_57 => ?_) (fun c_57 => ?_)
              · have hBt : BtC k9_.toInt y := fun s9 h8 h9 => by rw [show s9 = k9_ from Int32.toInt_inj.mp h8, ← q_56]; omega
                refine lv_aload_n hx hb dX10_drop_75 rfl (lv_at hl 1 rfl) ?_
                refine t_get (D := D) (L := L) (f := f_24) (ci := 10) (v := .ref (g 15)) (C := RX10) (T := TX10) (N := 8) hx hb hts (by decide +kernel) hown hK.1 hP (gm_10 hG) fb_25 rfl 4 (by decide) (hts (.fieldLink RX10 53 "JugglingHall" "catches" "LJugglingHall$Catches;") (by decide +kernel)) (fun _ h9 => h9) rfl dX10_drop_76 ?_
                refine lv_iload_n hx hb dX10_drop_79 rfl (lv_at hl 3 rfl) ?_
                have hGo := hG
                have hIo := hI
                refine call_p (va_runV (As := [.int y]) (rest := []) ⟨hx, hb, hml, hown, hts⟩ (t_X1_withoutm l D cI cR cM _ (w := (Ev lk9 x.toInt).2) (La := La_)  hj hG hI fc15 m_13 s_13 fb_27 fb_28 (by first | assumption | omega | (subst hj1; omega)) (by rw [hn1]; exact hn2) (by subst hj1; omega) (by rw [hn1]; exact hn4) (hc36) (hcl1.2.2.2.2.2.1)) (cwV 1 hts gX10_drop_X1_without rfl rfl rfl (by decide +kernel) ⟨Nat.le_of_ble_eq_true rfl, Nat.le_of_ble_eq_true rfl⟩) (pre_T hK hP hD (gm_15 hG) fc15 rfl) rfl rfl hl.1 rfl (lv_room (Nat.le_of_ble_eq_true rfl)) dX10_drop_80 ⟨Nat.le_of_ble_eq_true rfl, Nat.le_of_ble_eq_true rfl⟩) hD hS hA (fun u_58 H locs hw hP hD hS => ?_)
                obtain ⟨r_58, L, S, f_58⟩ := u_58
                dsimp only at hw hP hD
                obtain ⟨hX_58, hI_58, hF_58, ho_58, hcp_58, hnew_58, hOW_58⟩ := hw
                have fb_59 : f_58 (g 10) = .inr (10, [.int (nI jn), .ref (g 11), .ref (g 12), .ref (g 13), .ref (g 15), .ref (g 16), .ref (g 17), .ref (g 18)]) := FRX_at hF_58 (gm_10 hG) (gs_10 hG) (show (10 : Nat) ∉ ([] : List Nat) by decide) fb_25
                have fb_60 : f_58 (g 12) = .inr (0, [.ref (g 20), .ref (g 21), .int tm_2, .int lk_2]) := FRX_at hF_58 (gm_12 hG) (gs_12 hG) (show (12 : Nat) ∉ ([] : List Nat) by decide) fb_26
                have fb_61 : f_58 r_4 = .inr (5, [.int (nI jn), .int (nI (2 * jn)), .ref p_13, .int len_14]) := FRX_at hF_58 m_13 s_13 (show (0 : Nat) ∉ ([] : List Nat) by decide) fb_27
                have fb_62 : f_58 p_13 = .inl (cI, n_13, .inl c_15) := FRX_at hF_58 mp_14 sp_14 (show (1 : Nat) ∉ ([] : List Nat) by decide) fb_28
                have fb_63 : f_58 (g 15) = .inr (1, [.ref (g 35), .ref (g 27), .ref (g 36), .ref (g 37), .ref (g 38), .ref (g 39), .int k9_, va_rf (some r_4)]) := FRX_at hF_58 (gm_15 hG) (gs_15 hG) (show (15 : Nat) ∉ ([] : List Nat) by decide) fc15
                have su_64 := (hX_58 _ m_13).2.trans s_13
                have mu_64 := (hX_58 _ m_13).1
                have su_65 := (hX_58 _ mp_14).2.trans sp_14
                have mu_65 := (hX_58 _ mp_14).1
                have hF := FRX_trX hF hX hF_58 (by decide)
                have hX := EXT_tr hX hX_58
                have hG := SG_ext hX_58 hG
                have hI := hI_58
                refine W.widen (k := 2) (n := 148) (Nat.le_of_ble_eq_true rfl) (Nat.le_of_ble_eq_true rfl) ?_
                obtain ⟨p_66, n_66, m_66, s_66⟩ := ho_58
                rw [hn1] at hcp_58
                have hBk2 := BkR_ext hcl1.1 hGo hIo hX_58 hF_58 (by decide) (by subst hj1; omega)
                have hTp2 := TpC_x hcl1.2.1 hGo hF_58 (by decide)
                have hLv2 := LvC_x hcl1.2.2.1 hGo hF_58 (by decide)
                have hGr2 := GrC_x hcl1.2.2.2.1 hGo hF_58 (by decide)
                have hRD2 := RDC_ext hcl1.2.2.2.2.1 hX_58 hcl1.2.2.2.2.2.2
                have hNL2 : ∀ a9, NR g lv gr a9 → a9 ∈ L := fun a9 h9 => (hX_58 a9 (hcl1.2.2.2.2.2.2 a9 h9)).1
                have hNr2 : ¬ NR g lv gr r_58 := fun q9 => hnew_58 (hcl1.2.2.2.2.2.2 _ q9)
                obtain ⟨cb2, tm2, lk2, p20, p12, pT, plk, pP⟩ := hBk2
                refine lv_astore (lv' := [(5, .ref r_58), (4, .ref r_4), (0, .ref (g 10)), (1, .int x), (2, .int y), (3, .int v)]) hx hb dX10_drop_83 hl (by decide) rfl (fun ls hl => ?_)
                refine lv_aload_n hx hb dX10_drop_85 rfl (lv_at hl 2 rfl) ?_
                refine t_get (D := D) (L := L) (f := f_58) (ci := 10) (v := .ref (g 12)) (C := RX10) (T := TX10) (N := 8) hx hb hts (by decide +kernel) hown hK.1 hP (gm_10 hG) fb_59 rfl 2 (by decide) (hts (.fieldLink RX10 32 "JugglingHall" "book" "LJugglingHall$Book;") (by decide +kernel)) (fun _ h9 => h9) rfl dX10_drop_86 ?_
                refine call_p (va_runV (As := []) (rest := []) ⟨hx, hb, hml, hown, hts⟩ (t_X0_turnPagem l D cI cR cM _ (cb := cb2) (tm := tm2) (lk := lk2)  hj hG hI  (by first | assumption | omega | (subst hj1; omega)) (p20) (p12) (by subst hj1; omega)) (cwV 0 hts gX10_drop_X0_turnPage rfl rfl rfl (by decide +kernel) ⟨Nat.le_of_ble_eq_true rfl, Nat.le_of_ble_eq_true rfl⟩) (pre_T hK hP hD (gm_12 hG) fb_60 rfl) rfl rfl hl.1 rfl (lv_room (Nat.le_of_ble_eq_true rfl)) dX10_drop_89 ⟨Nat.le_of_ble_eq_true rfl, Nat.le_of_ble_eq_true rfl⟩) hD hS hA (fun u_67 H locs hw hP hD hS => ?_)
                obtain ⟨f_67, e0_67⟩ : ∃ x, x = u_67 := ⟨_, rfl⟩
                subst e0_67
                obtain ⟨hI, hF_67, hp_67, hfx_67⟩ : IN jn cI cR cM g L S f_67 ∧ FR S [12, 20, 21] f_58 f_67 ∧ (∃ (c1 : Nat → Option Nat) (tm1 : Int32), f_67 (g 20) = refs cR 488 c1 ∧ f_67 (g 12) = .inr (0, [.ref (g 20), .ref (g 21), .int tm1, .int tm1]) ∧ tm1.toInt = tm2.toInt + 1 ∧ (∀ i9 : Int, 0 ≤ i9 → i9 < 8 * (tm2.toInt + 1) → c1 i9.toNat = cb2 i9.toNat) ∧ ∀ l9 : Int, 0 ≤ l9 → l9 < 8 → c1 (8 * (tm2.toInt + 1) + l9).toNat = cb2 (8 * tm2.toInt + l9).toNat) ∧ (FX S (fun _ => False) [12, 20, 21] f_58 f_67) := hw
                have hP : va_P D vwCl (va_pl L f_67) H := hP
                have hD : va_D A (va_pl L f_67) := hD
                have hF := FRX_tr hF hX hF_67 (by decide)
                have fb_68 : f_67 (g 10) = .inr (10, [.int (nI jn), .ref (g 11), .ref (g 12), .ref (g 13), .ref (g 15), .ref (g 16), .ref (g 17), .ref (g 18)]) := FR_at hF_67 (gs_10 hG) (show (10 : Nat) ∉ ([12, 20, 21] : List Nat) by decide) fb_59
                have fb_69 : f_67 r_4 = .inr (5, [.int (nI jn), .int (nI (2 * jn)), .ref p_13, .int len_14]) := FR_at hF_67 su_64 (show (0 : Nat) ∉ ([12, 20, 21] : List Nat) by decide) fb_61
                have fb_70 : f_67 p_13 = .inl (cI, n_13, .inl c_15) := FR_at hF_67 su_65 (show (1 : Nat) ∉ ([12, 20, 21] : List Nat) by decide) fb_62
                have fb_71 : f_67 (g 15) = .inr (1, [.ref (g 35), .ref (g 27), .ref (g 36), .ref (g 37), .ref (g 38), .ref (g 39), .int k9_, va_rf (some r_4)]) := FR_at hF_67 (gs_15 hG) (show (15 : Nat) ∉ ([12, 20, 21] : List Nat) by decide) fb_63
                obtain ⟨c1_, tm1_, k20, k12, kt, k1, k2⟩ := hp_67
                refine lv_aload_n hx hb dX10_drop_92 rfl (lv_at hl 2 rfl) ?_
                refine t_get (D := D) (L := L) (f := f_67) (ci := 10) (v := .ref (g 12)) (C := RX10) (T := TX10) (N := 8) hx hb hts (by decide +kernel) hown hK.1 hP (gm_10 hG) fb_68 rfl 2 (by decide) (hts (.fieldLink RX10 32 "JugglingHall" "book" "LJugglingHall$Book;") (by decide +kernel)) (fun _ h9 => h9) rfl dX10_drop_93 ?_
                refine lv_iload_n hx hb dX10_drop_96 rfl (lv_at hl 5 rfl) ?_
                refine lv_aload hx hb dX10_drop_97 (lv_at hl 0 rfl) ?_
                obtain ⟨tm_72, lk_72, fg_72, iv0_72, iv1_72, iv2_72⟩ := op_12 hI (gm_12 hG) (gs_12 hG)
                obtain ⟨len_73, fg_73, v1_73, v2_73, v3_73, mp_73, sp_73⟩ := op_0 hI m_66 s_66
                obtain ⟨w1_73, w2_73, w3_73, w4_73, w5_73⟩ := lenw hj v1_73 v2_73 v3_73
                obtain ⟨c_74, fg_74, iv0_74⟩ := op_1 hI mp_73 sp_73
                refine call_p (va_runV (As := [.int v, .ref r_58]) (rest := []) ⟨hx, hb, hml, hown, hts⟩ (t_X0_writeRowm l D cI cR cM _ (cb := c1_) (tm := tm1_) (lk := tm1_)  hj hG hI m_66 s_66 fg_73 fg_74 (by first | assumption | omega | (subst hj1; omega)) (k20) (k12) (by subst hj1; omega)) (cwV 2 hts gX10_drop_X0_writeRow rfl rfl rfl (by decide +kernel) ⟨Nat.le_of_ble_eq_true rfl, Nat.le_of_ble_eq_true rfl⟩) (pre_T hK hP hD (gm_12 hG) fg_72 rfl) rfl rfl hl.1 rfl (lv_room (Nat.le_of_ble_eq_true rfl)) dX10_drop_99 ⟨Nat.le_of_ble_eq_true rfl, Nat.le_of_ble_eq_true rfl⟩) hD hS hA (fun u_75 H locs hw hP hD hS => ?_)
                obtain ⟨f_75, e0_75⟩ : ∃ x, x = u_75 := ⟨_, rfl⟩
                subst e0_75
                obtain ⟨hI, hF_75, hp_75, hfx_75⟩ : IN jn cI cR cM g L S f_75 ∧ FR S [20] f_67 f_75 ∧ (f_75 (g 20) = refs cR 488 (va_up c1_ (8 * tm1_.toInt + v.toInt).toNat (some r_58))) ∧ (FX S (fun _ => False) [20] f_67 f_75) := hw
                have hP : va_P D vwCl (va_pl L f_75) H := hP
                have hD : va_D A (va_pl L f_75) := hD
                have hF := FRX_tr hF hX hF_75 (by decide)
                have fb_76 : f_75 (g 10) = .inr (10, [.int (nI jn), .ref (g 11), .ref (g 12), .ref (g 13), .ref (g 15), .ref (g 16), .ref (g 17), .ref (g 18)]) := FR_at hF_75 (gs_10 hG) (show (10 : Nat) ∉ ([20] : List Nat) by decide) fb_68
                have fb_77 : f_75 r_4 = .inr (5, [.int (nI jn), .int (nI (2 * jn)), .ref p_13, .int len_14]) := FR_at hF_75 su_64 (show (0 : Nat) ∉ ([20] : List Nat) by decide) fb_69
                have fb_78 : f_75 p_13 = .inl (cI, n_13, .inl c_15) := FR_at hF_75 su_65 (show (1 : Nat) ∉ ([20] : List Nat) by decide) fb_70
                have fb_79 : f_75 (g 15) = .inr (1, [.ref (g 35), .ref (g 27), .ref (g 36), .ref (g 37), .ref (g 38), .ref (g 39), .int k9_, va_rf (some r_4)]) := FR_at hF_75 (gs_15 hG) (show (15 : Nat) ∉ ([20] : List Nat) by decide) fb_71
                have fb_80 : f_75 (g 12) = .inr (0, [.ref (g 20), .ref (g 21), .int tm_72, .int lk_72]) := FR_at hF_75 (gs_12 hG) (show (12 : Nat) ∉ ([20] : List Nat) by decide) fg_72
                have fb_81 : f_75 r_58 = .inr (5, [.int (nI jn), .int (nI (2 * jn)), .ref p_66, .int len_73]) := FR_at hF_75 s_66 (show (0 : Nat) ∉ ([20] : List Nat) by decide) fg_73
                have fb_82 : f_75 p_66 = .inl (cI, n_66, .inl c_74) := FR_at hF_75 sp_73 (show (1 : Nat) ∉ ([20] : List Nat) by decide) fg_74
                refine lv_aload_n hx hb dX10_drop_102 rfl (lv_at hl 2 rfl) ?_
                refine t_get (D := D) (L := L) (f := f_75) (ci := 10) (v := .ref (g 12)) (C := RX10) (T := TX10) (N := 8) hx hb hts (by decide +kernel) hown hK.1 hP (gm_10 hG) fb_76 rfl 2 (by decide) (hts (.fieldLink RX10 32 "JugglingHall" "book" "LJugglingHall$Book;") (by decide +kernel)) (fun _ h9 => h9) rfl dX10_drop_103 ?_
                have htmz := f12_at (by first | exact k12 | (rw [hF_75 _ (by rw [gs_12 hG]; decide)]; exact k12)) fb_80
                refine t_getN (D := D) (L := L) (f := f_75) (ci := 0) (v := .int tm_72) (C := RX0) (T := TX0) (N := 4) (host := "JugglingHall") hx hb hts (by decide +kernel) hown hK.1 hP (gm_12 hG) fb_80 rfl 2 (by decide) (hK.nw (.fieldLinkNest RX10 99 "JugglingHall$Book" "time" "I" "JugglingHall") (by decide +kernel) rfl) (fun _ h9 => h9) rfl dX10_drop_106 ?_
                exact g_iret (tm_72, L, S, f_75) hx hb hr hlocks hS rfl (⟨EXT_c eL0 eS0 hX, hI, FRX_c eL0 eS0 hF, (Or.inr ⟨by show tm_72.toInt = T9 + 1; omega, hDK, La_, _, hDL, hBt, Dr_bk hG pP pT (by subst hj1; omega) hfx_67 kt k1 k2 hfx_75 hF_75 k12 hp_75 hcp_58 hn0 hNr2 (by subst hj1; omega) (by subst hj1; omega), TpC_fr (TpC_fr hTp2 hG hF_67 (by decide)) hG hF_75 (by decide), LvC_fr (LvC_fr hLv2 hG hF_67 (by decide)) hG hF_75 (by decide), GrC_fr (GrC_fr hGr2 hG hF_67 (by decide)) hG hF_75 (by decide), hRD2, hOW_58, hNL2⟩)⟩) hP hD hQ (Nat.le_of_ble_eq_true rfl) (Nat.le_of_ble_eq_true rfl) dX10_drop_109
              · refine lv_iconst (v := (-1)) hx hb dX10_drop_73 (by decide) ?_
                have hz_83 : (-1 : Int32).toInt = (-1) := by decide
                exact g_iret ((-1 : Int32), L, S, f_24) hx hb hr hlocks hS rfl (⟨EXT_c eL0 eS0 hX, hI, FRX_c eL0 eS0 hF, (Or.inl ⟨rfl, Or.inr ⟨hDK, La_, _, hDL, fun q9 => by have h9 := q9 k9_ rfl (by subst hj1; omega); rw [← q_56] at h9; omega⟩, hcl1⟩)⟩) hP hD hQ (Nat.le_of_ble_eq_true rfl) (Nat.le_of_ble_eq_true rfl) dX10_drop_74
          · refine lv_iconst (v := (-1)) hx hb dX10_drop_47 (by decide) ?_
            have hz_84 : (-1 : Int32).toInt = (-1) := by decide
            exact g_iret ((-1 : Int32), L, S, f_24) hx hb hr hlocks hS rfl (⟨EXT_c eL0 eS0 hX, hI, FRX_c eL0 eS0 hF, (Or.inl ⟨rfl, Or.inl (fun q9 => (hp_24.resolve_left (fun q8 => by have h9 := q8.1; omega)).2 (by rw [hn1]; exact q9.2.2.2.2)), CLS_fr hcl hG hF_24 (by decide)⟩)⟩) hP hD hQ (Nat.le_of_ble_eq_true rfl) (Nat.le_of_ble_eq_true rfl) dX10_drop_48
