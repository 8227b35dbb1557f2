theorem TKm_o {cI : ClassId} {g : Nat → Nat} {L : List Nat} {S : Sg} {ks vs : Nat → Int} {f f1 : Nat → va_E} {i a : Nat} {q : Nat × Nat × Nat} (h : TKm cI g ks vs f i) (hG : SG g L S) (hs : S a = q) (ht : q.1 ∉ ([14, 31, 32] : List Nat)) (o1 : ∀ b, b ≠ a → f1 b = f b) : TKm cI g ks vs f1 i := TKm_fr h hG (T := [q.1]) (FR_set FR_rf hs (List.mem_singleton.mpr rfl) o1) (fun t ht2 ht3 => by
  rw [List.mem_singleton.mp ht3] at ht2
  exact ht ht2)
/-- beats that come again and again -/
def tmW (w : Int → Int) (n x : Int) : Int → Int := fun j => if j < 2 * n then w j else w (2 * x + (j - 2 * n) % (2 * (n - x)))
theorem tm_s {w : Int → Int} {n x q z j : Int} (hx : 0 ≤ x) (hn : x < n) (hq : 0 ≤ q) (hz : z = n + q * (n - x)) (j0 : 0 ≤ j) (j1 : j < 2 * (z + (n - x))) : (if j < 2 * z then tmW w n x j else tmW w n x (2 * x + (j - 2 * z))) = tmW w n x j := by
  by_cases e : j < 2 * z
  · rw [if_pos e]
  · rw [if_neg e]
    have hm0 : 0 ≤ q * (n - x) := Int.mul_nonneg hq (by omega)
    unfold tmW
    rw [if_pos (by omega), if_neg (by omega)]
    congr 2
    refine (md_u (k := q) (by omega) (by omega) ?_).symm
    rw [Int.mul_assoc, Int.mul_comm (n - x) q]
    omega
theorem tm_m {a b m : Int} (h : a = b + 1) : (a - 1) * m = (b - 1) * m + m := by
  rw [h, show b + 1 - 1 = (b - 1) + 1 by omega, Int.add_mul, Int.one_mul]
theorem tm_le {a b m : Int} (h : a ≤ b) (hm : 0 ≤ m) : (a - 1) * m ≤ (b - 1) * m := Int.mul_le_mul_of_nonneg_right (by omega) hm
/-- the digit behind turn -/
def TNf (cI : ClassId) (g : Nat → Nat) (f : Nat → va_E) (k v : Int) : Prop := ∃ ct : Nat → Int32, f (g 34) = .inl (cI, 6, .inl ct) ∧ (ct k.toNat).toInt = v
def LvC (cR : ClassId) (g lv : Nat → Nat) (f : Nat → va_E) : Prop := ∃ c, f (g 22) = refs cR 6 c ∧ ∀ k : Nat, k < 6 → c k = some (lv k)
theorem LvC_at {cR : ClassId} {g lv : Nat → Nat} {f : Nat → va_E} {c : Nat → Option Nat} {l : Int} {r : Nat} (h : LvC cR g lv f) (hf : f (g 22) = .inl (cR, 6, .inr (.inr (.inr (.inr c))))) (l0 : 0 ≤ l) (l1 : l < 6) (hc : c l.toNat = some r) : r = lv l.toNat := by
  obtain ⟨ch, h1, h2⟩ := h
  unfold refs at h1
  rw [hf] at h1
  cases h1
  have := h2 l.toNat (by omega)
  rw [hc] at this
  cases this
  rfl
/-- what a bracket does to its own beats -/
def ChI (a d : Int) (w : Int → Int) (m : Int) (v : Int → Int) : Prop := (a = 40 ∧ v = w) ∨ (a = 8 ∧ v = w) ∨ (a = 7 ∧ bkW w 0 m (2 * m).toNat = some v) ∨ (a = 9 ∧ plW w 0 m ∧ v = fun j => if j % 2 = 1 then 0 else 9 - w (2 * ((-(j / 2)) % m))) ∨ (a = 10 ∧ v = fun j => w (2 * ((j / 2 + d) % m) + j % 2))
def ChIF (a : Int) (w : Int → Int) (m : Int) : Prop := (a = 7 ∧ bkW w 0 m (2 * m).toNat = none) ∨ (a = 9 ∧ ¬ plW w 0 m)
theorem RWf_e {cI : ClassId} {jn : Nat} {S : Sg} {f : Nat → va_E} {a b : Nat} {n : Int} {w : Int → Int} (h : RWf cI jn S f b n w) (e : a = b) : RWf cI jn S f a n w := by rw [e]; exact h
set_option maxRecDepth 100000 in
set_option maxHeartbeats 4000000 in
theorem t_X4_readTimesm (l : Launch) (D : va_G) (cI cR cM : ClassId) (sz : Nat) {jn : Nat} {g : Nat → Nat} {L : List Nat} {S : Sg} {f : Nat → va_E} {b b_p b_n : Nat} {b_l : Int32} {b_c : Nat → Int32} {x : Int32} {ks vs : Nat → Int} {i : Nat} {w : Int → Int} (hj : 1 ≤ jn ∧ jn ≤ 3) (hG : SG g L S) (hI : IN jn cI cR cM g L S f) (m_b : b ∈ L) (s_b : S b = (0, b_p, b_n)) (f_b : f b = .inr (5, [.int (nI jn), .int (nI (2 * jn)), .ref b_p, .int b_l])) (f_b_p : f b_p = .inl (cI, b_n, .inl b_c)) (hj1 : jn = 1) (hC : TKm cI g ks vs f i) (hKO : KO ks vs) (hx0 : 0 ≤ x.toInt ∧ x.toInt < b_l.toInt) (hw : RC b_c w b_l.toInt) : Met l yX4_readTimes wsX4_readTimes ({ frames := 2, cells := 0, slots := 0, locals := 88 }) (P0 D cI cR cM [.ref (g 13), .ref b, .int x] sz (va_pl L f)) (QG (S := Int32 × (Nat → va_E)) (fun u => some (.int u.1)) (fun u => va_pl L u.2) (fun u => IN jn cI cR cM g L S u.2 ∧ FR S [0, 1, 13, 14] f u.2 ∧ ((u.1.toInt = 1 ∧ ((ks i ≠ 42 ∧ TKm cI g ks vs u.2 i ∧ RWf cI jn S u.2 b b_l.toInt w) ∨ (ks i = 42 ∧ ks (i + 1) = 1 ∧ vs (i + 1) ≠ 0 ∧ TKm cI g ks vs u.2 (i + 1 + 1) ∧ 2 * (b_l.toInt + (vs (i + 1) - 1) * (b_l.toInt - x.toInt)) ≤ (b_n : Int) ∧ RWf cI jn S u.2 b (b_l.toInt + (vs (i + 1) - 1) * (b_l.toInt - x.toInt)) (tmW w b_l.toInt x.toInt)))) ∨ (u.1.toInt = 0 ∧ ks i = 42 ∧ ¬ (ks (i + 1) = 1 ∧ vs (i + 1) ≠ 0 ∧ 2 * (b_l.toInt + (vs (i + 1) - 1) * (b_l.toInt - x.toInt)) ≤ (b_n : Int)))) ∧ (FX S (fun a9 => a9 = b) [13, 14] f u.2) ∧ (u.1.toInt = 0 ∨ u.1.toInt = 1)) D (va_A (va_pl L f) sz)) 0 0 (va_A (va_pl L f) sz) := by
  refine go (cc := cX4_readTimes) (maxL := 5) (ret := (some .boolean)) (by decide +kernel) rfl (Nat.le_of_ble_eq_true rfl) ?_
  intro p e s m below meth c ls args Q hQ hsz hx hb hr hml hts hown hlocks hnm hP hK hD hl
  subst hsz
  have hD := hD.self (sz := s.heap.size)
  generalize hAe : va_A (va_pl L f) s.heap.size = A at hD hQ
  have hA : ∀ q, s.heap.size ≤ q → A q := fun q h => by rw [← hAe]; exact Or.inr h
  have hS : va_S A s.heap s.heap [] := va_S.rf
  have hFX : FX S (fun a9 => a9 = b) [13, 14] f f := FX_rf
  have hF : FR S [0, 1, 13, 14] f f := FR_rf
  have hl : lv_has ls 5 [(0, .ref (g 13)), (1, .ref b), (2, .int x)] := hl
  obtain ⟨v1_b, v2_b, v3_b, m_b_p, s_b_p⟩ := iv_0 hI m_b s_b f_b
  obtain ⟨w1_b, w2_b, w3_b, w4_b, w5_b⟩ := lenw hj v1_b v2_b v3_b
  have k_b := iv_1 hI m_b_p s_b_p f_b_p
  obtain ⟨cnt_1, nx_1, kd_1, vl_1, st_1, ls_1, fg_1, iv0_1, iv1_1, iv2_1⟩ := op_14 hI (gm_14 hG) (gs_14 hG)
  obtain ⟨kk_2, kv_2⟩ := TKm_k hC fg_1
  refine lv_aload_n hx hb dX4_readTimes_0 rfl (lv_at hl 0 rfl) ?_
  obtain ⟨fa_3, pl_3, fg_3⟩ := op_13 hI (gm_13 hG) (gs_13 hG)
  refine t_get (D := D) (L := L) (f := f) (ci := 4) (v := .ref (g 14)) (C := RX4) (T := TX4) (N := 11) hx hb hts (by decide +kernel) hown hK.1 hP (gm_13 hG) fg_3 rfl 1 (by decide) (hts (.fieldLink RX4 41 "JugglingHall$Reader" "tokens" "LJugglingHall$Tokens;") (by decide +kernel)) (fun _ h9 => h9) rfl dX4_readTimes_1 ?_
  refine t_getN (D := D) (L := L) (f := f) (ci := 8) (v := .int kd_1) (C := RX8) (T := TX8) (N := 10) (host := "JugglingHall") hx hb hts (by decide +kernel) hown hK.1 hP (gm_14 hG) fg_1 rfl 6 (by decide) (hK.nw (.fieldLinkNest RX4 70 "JugglingHall$Tokens" "kind" "I" "JugglingHall") (by decide +kernel) rfl) (fun _ h9 => h9) rfl dX4_readTimes_4 ?_
  refine lv_bipush (v := 42) hx hb dX4_readTimes_7 (by decide) ?_
  refine a_icmp_eq (u := kd_1.toInt) (v := 42) (tgt := 14) hx hb dX4_readTimes_9 (by decide) (rfl) (by decide) (fun c_4 => ?_) (fun c_4 => ?_)
  · have kb_5 : ks (i) = 42 := cK_p (hKO (i)).1 (Or.inr ⟨by decide, by decide⟩) kk_2 c_4 (by decide)
    refine lv_aload_n hx hb dX4_readTimes_14 rfl (lv_at hl 0 rfl) ?_
    refine t_get (D := D) (L := L) (f := f) (ci := 4) (v := .ref (g 14)) (C := RX4) (T := TX4) (N := 11) hx hb hts (by decide +kernel) hown hK.1 hP (gm_13 hG) fg_3 rfl 1 (by decide) (hts (.fieldLink RX4 41 "JugglingHall$Reader" "tokens" "LJugglingHall$Tokens;") (by decide +kernel)) (fun _ h9 => h9) rfl dX4_readTimes_15 ?_
    refine call_p (va_runV (As := []) (rest := []) ⟨hx, hb, hml, hown, hts⟩ (t_X8_advancem l D cI cR cM _ (ks := ks) (vs := vs) (i := i)  hj hG hI  (by first | assumption | omega | (subst hj1; omega)) (hC)) (cwV 0 hts gX4_readTimes_X8_advance rfl rfl rfl (by decide +kernel) ⟨Nat.le_of_ble_eq_true rfl, Nat.le_of_ble_eq_true rfl⟩) (pre_T hK hP hD (gm_14 hG) fg_1 rfl) rfl rfl hl.1 rfl (lv_room (Nat.le_of_ble_eq_true rfl)) dX4_readTimes_18 ⟨Nat.le_of_ble_eq_true rfl, Nat.le_of_ble_eq_true rfl⟩) hD hS hA (fun u_6 H locs hw hP hD hS => ?_)
    obtain ⟨f_6, e0_6⟩ : ∃ x, x = u_6 := ⟨_, rfl⟩
    subst e0_6
    obtain ⟨hI, hF_6, hC_6, hfx_6⟩ : IN jn cI cR cM g L S f_6 ∧ FR S [14] f f_6 ∧ (TKm cI g ks vs f_6 ((i) + 1)) ∧ (FX S (fun _ => False) [14] f f_6) := hw
    have hP : va_P D vwCl (va_pl L f_6) H := hP
    have hD : va_D A (va_pl L f_6) := hD
    have hF := FR_tr hF hF_6 (by decide)
    have hFX := FX_tr hFX hfx_6 (fun _ h9 => h9.elim) (by decide)
    have fb_7 : f_6 b = .inr (5, [.int (nI jn), .int (nI (2 * jn)), .ref b_p, .int b_l]) := FR_at hF_6 s_b (show (0 : Nat) ∉ ([14] : List Nat) by decide) f_b
    have fb_8 : f_6 b_p = .inl (cI, b_n, .inl b_c) := FR_at hF_6 s_b_p (show (1 : Nat) ∉ ([14] : List Nat) by decide) f_b_p
    have fb_9 : f_6 (g 13) = .inr (4, [.int (nI jn), .ref (g 14), .ref (g 12), .ref (g 22), .ref (g 34), .ref (g 23), .ref (g 24), .ref (g 25), .ref (g 26), .int fa_3, .int pl_3]) := FR_at hF_6 (gs_13 hG) (show (13 : Nat) ∉ ([14] : List Nat) by decide) fg_3
    have hCm_6 : TKm cI g ks vs f_6 (i + 1) := hC_6
    obtain ⟨cnt_10, nx_10, kd_10, vl_10, st_10, ls_10, fg_10, iv0_10, iv1_10, iv2_10⟩ := op_14 hI (gm_14 hG) (gs_14 hG)
    obtain ⟨kk_11, kv_11⟩ := TKm_k hCm_6 fg_10
    refine lv_aload_n hx hb dX4_readTimes_21 rfl (lv_at hl 0 rfl) ?_
    refine t_get (D := D) (L := L) (f := f_6) (ci := 4) (v := .ref (g 14)) (C := RX4) (T := TX4) (N := 11) hx hb hts (by decide +kernel) hown hK.1 hP (gm_13 hG) fb_9 rfl 1 (by decide) (hts (.fieldLink RX4 41 "JugglingHall$Reader" "tokens" "LJugglingHall$Tokens;") (by decide +kernel)) (fun _ h9 => h9) rfl dX4_readTimes_22 ?_
    refine t_getN (D := D) (L := L) (f := f_6) (ci := 8) (v := .int kd_10) (C := RX8) (T := TX8) (N := 10) (host := "JugglingHall") hx hb hts (by decide +kernel) hown hK.1 hP (gm_14 hG) fg_10 rfl 6 (by decide) (hK.nw (.fieldLinkNest RX4 70 "JugglingHall$Tokens" "kind" "I" "JugglingHall") (by decide +kernel) rfl) (fun _ h9 => h9) rfl dX4_readTimes_25 ?_
    refine lv_iconst (v := 2) hx hb dX4_readTimes_28 (by decide) ?_
    refine a_icmp_eq (u := kd_10.toInt) (v := 2) (tgt := 38) hx hb dX4_readTimes_29 (by decide) (rfl) (by decide) (fun c_12 => ?_) (fun c_12 => ?_)
    · have kb_13 : ks (i + 1) = 1 := cK_p (hKO (i + 1)).1 (Or.inl ⟨by decide, by decide⟩) kk_11 c_12 (by decide)
      refine lv_aload_n hx hb dX4_readTimes_38 rfl (lv_at hl 0 rfl) ?_
      refine t_get (D := D) (L := L) (f := f_6) (ci := 4) (v := .ref (g 14)) (C := RX4) (T := TX4) (N := 11) hx hb hts (by decide +kernel) hown hK.1 hP (gm_13 hG) fb_9 rfl 1 (by decide) (hts (.fieldLink RX4 41 "JugglingHall$Reader" "tokens" "LJugglingHall$Tokens;") (by decide +kernel)) (fun _ h9 => h9) rfl dX4_readTimes_39 ?_
      refine t_getN (D := D) (L := L) (f := f_6) (ci := 8) (v := .int vl_10) (C := RX8) (T := TX8) (N := 10) (host := "JugglingHall") hx hb hts (by decide +kernel) hown hK.1 hP (gm_14 hG) fg_10 rfl 7 (by decide) (hK.nw (.fieldLinkNest RX4 113 "JugglingHall$Tokens" "value" "I" "JugglingHall") (by decide +kernel) rfl) (fun _ h9 => h9) rfl dX4_readTimes_42 ?_
      have hv9 := kv_11 (Or.inl (by subst hj1; omega))
      have hv8 := (hKO (i + 1)).2.1 (by subst hj1; omega)
      refine a_if_ne (u := vl_10.toInt) (tgt := 54) hx hb dX4_readTimes_45 (by decide) (rfl) (fun c_14 => ?_) (fun c_14 => ?_)
      · refine lv_aload_n hx hb dX4_readTimes_54 rfl (lv_at hl 1 rfl) ?_
        refine t_getN (D := D) (L := L) (f := f_6) (ci := 5) (v := .int b_l) (C := RX5) (T := TX5) (N := 4) (host := "JugglingHall") hx hb hts (by decide +kernel) hown hK.1 hP m_b fb_7 rfl 3 (by decide) (hK.nw (.fieldLinkNest RX4 62 "JugglingHall$Row" "length" "I" "JugglingHall") (by decide +kernel) rfl) (fun _ h9 => h9) rfl dX4_readTimes_55 ?_
        refine lv_istore_n (lv' := [(3, .int b_l), (0, .ref (g 13)), (1, .ref b), (2, .int x)]) hx hb dX4_readTimes_58 rfl hl (by decide) rfl (fun ls hl => ?_)
        refine lv_iconst (v := 1) hx hb dX4_readTimes_59 (by decide) ?_
        refine lv_istore (lv' := [(4, .int 1), (3, .int b_l), (0, .ref (g 13)), (1, .ref b), (2, .int x)]) hx hb dX4_readTimes_60 hl (by decide) rfl (fun ls hl => ?_)
        have loop62 : ∀ (ddloop62 : Nat) (ii : Int32) (f_15 : Nat → va_E) (H : Heap) (locs : List Loc) (ls : Array Slot), (20 - ii.toInt).toNat < ddloop62 → IN jn cI cR cM g L S f_15 → FR S [0, 1, 13, 14] f f_15 → (1 ≤ ii.toInt ∧ ii.toInt ≤ vs (i + 1)) → (RWf cI jn S f_15 b (b_l.toInt + (ii.toInt - 1) * (b_l.toInt - x.toInt)) (tmW w b_l.toInt x.toInt)) → (TKm cI g ks vs f_15 (i + 1)) → (FX S (fun a9 => a9 = b) [13, 14] f f_15) → va_P D vwCl (va_pl L f_15) H → va_D A (va_pl L f_15) → va_S A s.heap H locs → lv_has ls 5 [(0, .ref (g 13)), (1, .ref b), (2, .int x), (3, .int b_l), (4, .int ii)] → W p l e ({ frames := 2, cells := 0, slots := 0, locals := 88 }) s m args below meth c H locs (0) (0) Q (F0 m 62 ls []) := by
          intro ddloop62
          induction ddloop62 with
          | zero =>
            intro ii f_15 H locs ls hdd
            exact absurd hdd (Nat.not_lt_zero _)
          | succ ddloop62 ih62 =>
            intro ii f_15 H locs ls hdd hI hF hi hRW hCl hFX hP hD hS hl
            have hk9 := hi
            have hm0 : 0 ≤ (ii.toInt - 1) * (b_l.toInt - x.toInt) := Int.mul_nonneg (by subst hj1; omega) (by subst hj1; omega)
            have hIl := hI
            obtain ⟨cnt_16, nx_16, kd_16, vl_16, st_16, ls_16, fg_16, iv0_16, iv1_16, iv2_16⟩ := op_14 hI (gm_14 hG) (gs_14 hG)
            obtain ⟨kk_17, kv_17⟩ := TKm_k hCl fg_16
            refine lv_iload hx hb dX4_readTimes_62 (lv_at hl 4 rfl) ?_
            refine lv_aload_n hx hb dX4_readTimes_64 rfl (lv_at hl 0 rfl) ?_
            obtain ⟨fa_18, pl_18, fg_18⟩ := op_13 hI (gm_13 hG) (gs_13 hG)
            refine t_get (D := D) (L := L) (f := f_15) (ci := 4) (v := .ref (g 14)) (C := RX4) (T := TX4) (N := 11) hx hb hts (by decide +kernel) hown hK.1 hP (gm_13 hG) fg_18 rfl 1 (by decide) (hts (.fieldLink RX4 41 "JugglingHall$Reader" "tokens" "LJugglingHall$Tokens;") (by decide +kernel)) (fun _ h9 => h9) rfl dX4_readTimes_65 ?_
            refine t_getN (D := D) (L := L) (f := f_15) (ci := 8) (v := .int vl_16) (C := RX8) (T := TX8) (N := 10) (host := "JugglingHall") hx hb hts (by decide +kernel) hown hK.1 hP (gm_14 hG) fg_16 rfl 7 (by decide) (hK.nw (.fieldLinkNest RX4 113 "JugglingHall$Tokens" "value" "I" "JugglingHall") (by decide +kernel) rfl) (fun _ h9 => h9) rfl dX4_readTimes_68 ?_
            have hvl9 := kv_17 (Or.inl (by subst hj1; omega))
            refine a_icmp_ge (u := ii.toInt) (v := vl_16.toInt) (tgt := 96) hx hb dX4_readTimes_71 (by decide) (rfl) (rfl) (fun c_19 => ?_) (fun c_19 => ?_)
            · refine lv_aload_n hx hb dX4_readTimes_96 rfl (lv_at hl 0 rfl) ?_
              refine t_get (D := D) (L := L) (f := f_15) (ci := 4) (v := .ref (g 14)) (C := RX4) (T := TX4) (N := 11) hx hb hts (by decide +kernel) hown hK.1 hP (gm_13 hG) fg_18 rfl 1 (by decide) (hts (.fieldLink RX4 41 "JugglingHall$Reader" "tokens" "LJugglingHall$Tokens;") (by decide +kernel)) (fun _ h9 => h9) rfl dX4_readTimes_97 ?_
              refine call_p (va_runV (As := []) (rest := []) ⟨hx, hb, hml, hown, hts⟩ (t_X8_advancem l D cI cR cM _ (ks := ks) (vs := vs) (i := i + 1)  hj hG hI  (by first | assumption | omega | (subst hj1; omega)) (hCl)) (cwV 0 hts gX4_readTimes_X8_advance rfl rfl rfl (by decide +kernel) ⟨Nat.le_of_ble_eq_true rfl, Nat.le_of_ble_eq_true rfl⟩) (pre_T hK hP hD (gm_14 hG) fg_16 rfl) rfl rfl hl.1 rfl (lv_room (Nat.le_of_ble_eq_true rfl)) dX4_readTimes_100 ⟨Nat.le_of_ble_eq_true rfl, Nat.le_of_ble_eq_true rfl⟩) hD hS hA (fun u_20 H locs hw hP hD hS => ?_)
              obtain ⟨f_20, e0_20⟩ : ∃ x, x = u_20 := ⟨_, rfl⟩
              subst e0_20
              obtain ⟨hI, hF_20, hC_20, hfx_20⟩ : IN jn cI cR cM g L S f_20 ∧ FR S [14] f_15 f_20 ∧ (TKm cI g ks vs f_20 ((i + 1) + 1)) ∧ (FX S (fun _ => False) [14] f_15 f_20) := hw
              have hP : va_P D vwCl (va_pl L f_20) H := hP
              have hD : va_D A (va_pl L f_20) := hD
              have hF := FR_tr hF hF_20 (by decide)
              have hFX := FX_tr hFX hfx_20 (fun _ h9 => h9.elim) (by decide)
              have fb_21 : f_20 (g 13) = .inr (4, [.int (nI jn), .ref (g 14), .ref (g 12), .ref (g 22), .ref (g 34), .ref (g 23), .ref (g 24), .ref (g 25), .ref (g 26), .int fa_18, .int pl_18]) := FR_at hF_20 (gs_13 hG) (show (13 : Nat) ∉ ([14] : List Nat) by decide) fg_18
              refine lv_iconst (v := 1) hx hb dX4_readTimes_103 (by decide) ?_
              have hz_22 : (1 : Int32).toInt = 1 := by decide
              exact g_zret ((1 : Int32), f_20) hx hb hr hlocks hS (by first | exact Or.inl rfl | exact Or.inr rfl) rfl (⟨hI, hF, show ((1 : Int32).toInt = 1 ∧ ((ks i ≠ 42 ∧ TKm cI g ks vs f_20 i ∧ RWf cI jn S f_20 b b_l.toInt w) ∨ (ks i = 42 ∧ ks (i + 1) = 1 ∧ vs (i + 1) ≠ 0 ∧ TKm cI g ks vs f_20 (i + 1 + 1) ∧ 2 * (b_l.toInt + (vs (i + 1) - 1) * (b_l.toInt - x.toInt)) ≤ (b_n : Int) ∧ RWf cI jn S f_20 b (b_l.toInt + (vs (i + 1) - 1) * (b_l.toInt - x.toInt)) (tmW w b_l.toInt x.toInt)))) ∨ ((1 : Int32).toInt = 0 ∧ ks i = 42 ∧ ¬ (ks (i + 1) = 1 ∧ vs (i + 1) ≠ 0 ∧ 2 * (b_l.toInt + (vs (i + 1) - 1) * (b_l.toInt - x.toInt)) ≤ (b_n : Int))) from (by
                have e9 : ii.toInt = vs (i + 1) := by omega
                obtain ⟨p9, N9, l9, c9, a1, a2, a3, a4, a5, a6⟩ := hRW
                rw [s_b] at a1
                cases a1
                have h4 := op_0 hI m_b s_b
                have h5 : RWf cI jn S f_20 b (b_l.toInt + (ii.toInt - 1) * (b_l.toInt - x.toInt)) (tmW w b_l.toInt x.toInt) := RWf_fx ⟨_, _, l9, c9, s_b, a2, a3, a4, a5, a6⟩ hfx_20 (fun h9 => h9) (by decide)
                rw [e9] at h5 a5
                refine Or.inl ⟨rfl, Or.inr ⟨by omega, by omega, by omega, hC_20, ?_, h5⟩⟩
                have h3 := iv_0 (len := l9) hIl m_b s_b a3
                rw [← a5]
                have h2 := h3.2.1
                subst hj1
                omega), show FX S (fun a9 => a9 = b) [13, 14] f f_20 from (by first | assumption | omega | (subst hj1; omega)), show (1 : Int32).toInt = 0 ∨ (1 : Int32).toInt = 1 from (by first | assumption | omega | (subst hj1; omega))⟩) hP hD hQ (Nat.le_of_ble_eq_true rfl) (Nat.le_of_ble_eq_true rfl) dX4_readTimes_104
            · refine lv_aload_n hx hb dX4_readTimes_74 rfl (lv_at hl 1 rfl) ?_
              refine lv_aload_n hx hb dX4_readTimes_75 rfl (lv_at hl 1 rfl) ?_
              refine lv_iload_n hx hb dX4_readTimes_76 rfl (lv_at hl 2 rfl) ?_
              refine lv_iload_n hx hb dX4_readTimes_77 rfl (lv_at hl 3 rfl) ?_
              obtain ⟨len_23, fg_23, v1_23, v2_23, v3_23, mp_23, sp_23⟩ := op_0 hI m_b s_b
              obtain ⟨w1_23, w2_23, w3_23, w4_23, w5_23⟩ := lenw hj v1_23 v2_23 v3_23
              obtain ⟨c_24, fg_24, iv0_24⟩ := op_1 hI m_b_p s_b_p
              obtain ⟨hl_25, hc_25⟩ := RWf_at hRW s_b fg_23 fg_24
              refine call_p (va_runV (As := [.ref b, .int x, .int b_l]) (rest := []) ⟨hx, hb, hml, hown, hts⟩ (t_X5_appendm l D cI cR cM _ (w := tmW w b_l.toInt x.toInt) (v := tmW w b_l.toInt x.toInt)  hj hG hI m_b s_b fg_23 fg_24 m_b s_b fg_23 fg_24 (by first | assumption | omega | (subst hj1; omega)) (by subst hj1; omega) (by rw [hl_25]; exact hc_25) (by rw [hl_25]; exact hc_25)) (cwV 3 hts gX4_readTimes_X5_append rfl rfl rfl (by decide +kernel) ⟨Nat.le_of_ble_eq_true rfl, Nat.le_of_ble_eq_true rfl⟩) (pre_T hK hP hD m_b fg_23 rfl) rfl rfl hl.1 rfl (lv_room (Nat.le_of_ble_eq_true rfl)) dX4_readTimes_78 ⟨Nat.le_of_ble_eq_true rfl, Nat.le_of_ble_eq_true rfl⟩) hD hS hA (fun u_26 H locs hw hP hD hS => ?_)
              obtain ⟨r_26, f_26⟩ := u_26
              obtain ⟨hI, hF_26, hp_26, hfx_26, h01_26⟩ : IN jn cI cR cM g L S f_26 ∧ FR S [0, 1] f_15 f_26 ∧ ((r_26.toInt = 1 ∧ 2 * (len_23.toInt + (b_l.toInt - x.toInt)) ≤ (b_n : Int) ∧ RWf cI jn S f_26 b (len_23.toInt + (b_l.toInt - x.toInt)) (fun j => if j < 2 * len_23.toInt then (tmW w b_l.toInt x.toInt) j else (tmW w b_l.toInt x.toInt) (2 * x.toInt + (j - 2 * len_23.toInt)))) ∨ (r_26.toInt = 0 ∧ (b_n : Int) < 2 * (len_23.toInt + (b_l.toInt - x.toInt)))) ∧ (FX S (fun a9 => a9 = b) [] f_15 f_26) ∧ (r_26.toInt = 0 ∨ r_26.toInt = 1) := hw
              have hP : va_P D vwCl (va_pl L f_26) H := hP
              have hD : va_D A (va_pl L f_26) := hD
              have hF := FR_tr hF hF_26 (by decide)
              have hFX := FX_tr hFX hfx_26 (fun _ h9 => h9) (by decide)
              have fb_27 : f_26 (g 14) = .inr (8, [.ref (g 11), .ref (g 31), .ref (g 32), .ref (g 33), .int cnt_16, .int nx_16, .int kd_16, .int vl_16, .int st_16, .int ls_16]) := FR_at hF_26 (gs_14 hG) (show (14 : Nat) ∉ ([0, 1] : List Nat) by decide) fg_16
              have fb_28 : f_26 (g 13) = .inr (4, [.int (nI jn), .ref (g 14), .ref (g 12), .ref (g 22), .ref (g 34), .ref (g 23), .ref (g 24), .ref (g 25), .ref (g 26), .int fa_18, .int pl_18]) := FR_at hF_26 (gs_13 hG) (show (13 : Nat) ∉ ([0, 1] : List Nat) by decide) fg_18
              refine a_if_ne (u := r_26.toInt) (tgt := 90) hx hb dX4_readTimes_81 (by decide) (rfl) (fun c_29 => ?_) (fun c_29 => ?_)
              · obtain ⟨z_30, q_30, e_30⟩ := i_inc (a := ii.toInt) (1) (rfl) (by decide) (by subst hj1; omega) (by subst hj1; omega)
                refine lv_iinc (v := z_30) (lv' := [(4, .int z_30), (0, .ref (g 13)), (1, .ref b), (2, .int x), (3, .int b_l)]) hx hb dX4_readTimes_90 hl (k := 4) rfl q_30 (by decide) rfl (fun ls hl => ?_)
                refine lv_goto (tgt := 62) hx hb dX4_readTimes_93 (by decide) ?_
                exact ih62 z_30 f_26 _ _ _ (by subst hj1; omega) hI hF (by first | assumption | omega | (subst hj1; omega)) (by
                  obtain ⟨-, h7, h8⟩ := hp_26.resolve_right (fun q7 => by have := q7.1; omega)
                  rw [hl_25] at h8
                  rw [tm_m (show z_30.toInt = ii.toInt + 1 by omega), ← Int.add_assoc]
                  exact RWf_c h8 (fun j9 j0 j1 => tm_s (q := ii.toInt - 1) (by subst hj1; omega) (by subst hj1; omega) (by subst hj1; omega) rfl j0 j1)) (TKm_fr hCl hG hF_26 (by decide)) (by first | assumption | omega | (subst hj1; omega)) hP hD hS (lv_sub hl [1, 2, 3, 4, 0] rfl)
              · refine lv_aload_n hx hb dX4_readTimes_84 rfl (lv_at hl 0 rfl) ?_
                refine lv_iconst (v := 4) hx hb dX4_readTimes_85 (by decide) ?_
                have hz_31 : (4 : Int32).toInt = 4 := by decide
                refine call_p (va_runV (As := [.int 4]) (rest := []) ⟨hx, hb, hml, hown, hts⟩ (t_X4_fail l D cI cR cM _   hj hG hI  ) (cwV 1 hts gX4_readTimes_X4_fail rfl rfl rfl (by decide +kernel) ⟨Nat.le_of_ble_eq_true rfl, Nat.le_of_ble_eq_true rfl⟩) (pre_T hK hP hD (gm_13 hG) fb_28 rfl) rfl rfl hl.1 rfl (lv_room (Nat.le_of_ble_eq_true rfl)) dX4_readTimes_86 ⟨Nat.le_of_ble_eq_true rfl, Nat.le_of_ble_eq_true rfl⟩) hD hS hA (fun u_32 H locs hw hP hD hS => ?_)
                obtain ⟨r_32, f_32⟩ := u_32
                obtain ⟨hI, hF_32, h0_32, h01_32⟩ : IN jn cI cR cM g L S f_32 ∧ FR S [13] f_26 f_32 ∧ (r_32.toInt = 0) ∧ (r_32.toInt = 0 ∨ r_32.toInt = 1) := hw
                have hP : va_P D vwCl (va_pl L f_32) H := hP
                have hD : va_D A (va_pl L f_32) := hD
                have hF := FR_tr hF hF_32 (by decide)
                have hFX := FX_trR hFX hF_32 (by decide) (by decide)
                have fb_33 : f_32 (g 14) = .inr (8, [.ref (g 11), .ref (g 31), .ref (g 32), .ref (g 33), .int cnt_16, .int nx_16, .int kd_16, .int vl_16, .int st_16, .int ls_16]) := FR_at hF_32 (gs_14 hG) (show (14 : Nat) ∉ ([13] : List Nat) by decide) fb_27
                exact g_zret (r_32, f_32) hx hb hr hlocks hS (b01 (by subst hj1; omega)) rfl (⟨hI, hF, show (r_32.toInt = 1 ∧ ((ks i ≠ 42 ∧ TKm cI g ks vs f_32 i ∧ RWf cI jn S f_32 b b_l.toInt w) ∨ (ks i = 42 ∧ ks (i + 1) = 1 ∧ vs (i + 1) ≠ 0 ∧ TKm cI g ks vs f_32 (i + 1 + 1) ∧ 2 * (b_l.toInt + (vs (i + 1) - 1) * (b_l.toInt - x.toInt)) ≤ (b_n : Int) ∧ RWf cI jn S f_32 b (b_l.toInt + (vs (i + 1) - 1) * (b_l.toInt - x.toInt)) (tmW w b_l.toInt x.toInt)))) ∨ (r_32.toInt = 0 ∧ ks i = 42 ∧ ¬ (ks (i + 1) = 1 ∧ vs (i + 1) ≠ 0 ∧ 2 * (b_l.toInt + (vs (i + 1) - 1) * (b_l.toInt - x.toInt)) ≤ (b_n : Int))) from (Or.inr ⟨h0_32, by omega, fun q9 => by
                  obtain ⟨q1, q2, q3⟩ := q9
                  have h8 := (hp_26.resolve_left (fun q7 => by have := q7.1; omega)).2
                  rw [hl_25] at h8
                  have h6 := tm_le (a := ii.toInt + 1) (b := vs (i + 1)) (m := (b_l.toInt - x.toInt)) (by subst hj1; omega) (by subst hj1; omega)
                  rw [tm_m rfl] at h6
                  omega⟩), show FX S (fun a9 => a9 = b) [13, 14] f f_32 from (by first | assumption | omega | (subst hj1; omega)), show r_32.toInt = 0 ∨ r_32.toInt = 1 from (by first | assumption | omega | (subst hj1; omega))⟩) hP hD hQ (Nat.le_of_ble_eq_true rfl) (Nat.le_of_ble_eq_true rfl) dX4_readTimes_89
        have hz_34 : (1 : Int32).toInt = 1 := by decide
        exact loop62 ((20 - (1 : Int32).toInt).toNat + 1) (1 : Int32) f_6 _ _ _ (by subst hj1; omega) hI hF (by first | assumption | omega | (subst hj1; omega)) (by
          refine ⟨b_p, b_n, b_l, b_c, s_b, s_b_p, fb_7, fb_8, ?_, ?_⟩
          · rw [show (1 : Int32).toInt - 1 = 0 from rfl, Int.zero_mul, Int.add_zero]
          · rw [show (1 : Int32).toInt - 1 = 0 from rfl, Int.zero_mul, Int.add_zero]
            intro i9 h8 h9
            unfold tmW
            rw [if_pos h9]
            exact hw i9 h8 h9) (hCm_6) (by first | assumption | omega | (subst hj1; omega)) hP hD hS (lv_sub hl [2, 3, 4, 1, 0] rfl)
      · refine lv_aload_n hx hb dX4_readTimes_48 rfl (lv_at hl 0 rfl) ?_
        refine lv_iconst (v := 2) hx hb dX4_readTimes_49 (by decide) ?_
        have hz_35 : (2 : Int32).toInt = 2 := by decide
        refine call_p (va_runV (As := [.int 2]) (rest := []) ⟨hx, hb, hml, hown, hts⟩ (t_X4_fail l D cI cR cM _   hj hG hI  ) (cwV 1 hts gX4_readTimes_X4_fail rfl rfl rfl (by decide +kernel) ⟨Nat.le_of_ble_eq_true rfl, Nat.le_of_ble_eq_true rfl⟩) (pre_T hK hP hD (gm_13 hG) fb_9 rfl) rfl rfl hl.1 rfl (lv_room (Nat.le_of_ble_eq_true rfl)) dX4_readTimes_50 ⟨Nat.le_of_ble_eq_true rfl, Nat.le_of_ble_eq_true rfl⟩) hD hS hA (fun u_36 H locs hw hP hD hS => ?_)
        obtain ⟨r_36, f_36⟩ := u_36
        obtain ⟨hI, hF_36, h0_36, h01_36⟩ : IN jn cI cR cM g L S f_36 ∧ FR S [13] f_6 f_36 ∧ (r_36.toInt = 0) ∧ (r_36.toInt = 0 ∨ r_36.toInt = 1) := hw
        have hP : va_P D vwCl (va_pl L f_36) H := hP
        have hD : va_D A (va_pl L f_36) := hD
        have hF := FR_tr hF hF_36 (by decide)
        have hFX := FX_trR hFX hF_36 (by decide) (by decide)
        have fb_37 : f_36 b = .inr (5, [.int (nI jn), .int (nI (2 * jn)), .ref b_p, .int b_l]) := FR_at hF_36 s_b (show (0 : Nat) ∉ ([13] : List Nat) by decide) fb_7
        have fb_38 : f_36 b_p = .inl (cI, b_n, .inl b_c) := FR_at hF_36 s_b_p (show (1 : Nat) ∉ ([13] : List Nat) by decide) fb_8
        have fb_39 : f_36 (g 14) = .inr (8, [.ref (g 11), .ref (g 31), .ref (g 32), .ref (g 33), .int cnt_10, .int nx_10, .int kd_10, .int vl_10, .int st_10, .int ls_10]) := FR_at hF_36 (gs_14 hG) (show (14 : Nat) ∉ ([13] : List Nat) by decide) fg_10
        exact g_zret (r_36, f_36) hx hb hr hlocks hS (b01 (by subst hj1; omega)) rfl (⟨hI, hF, show (r_36.toInt = 1 ∧ ((ks i ≠ 42 ∧ TKm cI g ks vs f_36 i ∧ RWf cI jn S f_36 b b_l.toInt w) ∨ (ks i = 42 ∧ ks (i + 1) = 1 ∧ vs (i + 1) ≠ 0 ∧ TKm cI g ks vs f_36 (i + 1 + 1) ∧ 2 * (b_l.toInt + (vs (i + 1) - 1) * (b_l.toInt - x.toInt)) ≤ (b_n : Int) ∧ RWf cI jn S f_36 b (b_l.toInt + (vs (i + 1) - 1) * (b_l.toInt - x.toInt)) (tmW w b_l.toInt x.toInt)))) ∨ (r_36.toInt = 0 ∧ ks i = 42 ∧ ¬ (ks (i + 1) = 1 ∧ vs (i + 1) ≠ 0 ∧ 2 * (b_l.toInt + (vs (i + 1) - 1) * (b_l.toInt - x.toInt)) ≤ (b_n : Int))) from (Or.inr ⟨h0_36, by omega, fun q9 => by obtain ⟨q1, q2, q3⟩ := q9; omega⟩), show FX S (fun a9 => a9 = b) [13, 14] f f_36 from (by first | assumption | omega | (subst hj1; omega)), show r_36.toInt = 0 ∨ r_36.toInt = 1 from (by first | assumption | omega | (subst hj1; omega))⟩) hP hD hQ (Nat.le_of_ble_eq_true rfl) (Nat.le_of_ble_eq_true rfl) dX4_readTimes_53
    · have kb_40 : ks (i + 1) ≠ 1 := cK_n kk_11 c_12 (by decide)
      refine lv_aload_n hx hb dX4_readTimes_32 rfl (lv_at hl 0 rfl) ?_
      refine lv_iconst (v := 1) hx hb dX4_readTimes_33 (by decide) ?_
      have hz_41 : (1 : Int32).toInt = 1 := by decide
      refine call_p (va_runV (As := [.int 1]) (rest := []) ⟨hx, hb, hml, hown, hts⟩ (t_X4_fail l D cI cR cM _   hj hG hI  ) (cwV 1 hts gX4_readTimes_X4_fail rfl rfl rfl (by decide +kernel) ⟨Nat.le_of_ble_eq_true rfl, Nat.le_of_ble_eq_true rfl⟩) (pre_T hK hP hD (gm_13 hG) fb_9 rfl) rfl rfl hl.1 rfl (lv_room (Nat.le_of_ble_eq_true rfl)) dX4_readTimes_34 ⟨Nat.le_of_ble_eq_true rfl, Nat.le_of_ble_eq_true rfl⟩) hD hS hA (fun u_42 H locs hw hP hD hS => ?_)
      obtain ⟨r_42, f_42⟩ := u_42
      obtain ⟨hI, hF_42, h0_42, h01_42⟩ : IN jn cI cR cM g L S f_42 ∧ FR S [13] f_6 f_42 ∧ (r_42.toInt = 0) ∧ (r_42.toInt = 0 ∨ r_42.toInt = 1) := hw
      have hP : va_P D vwCl (va_pl L f_42) H := hP
      have hD : va_D A (va_pl L f_42) := hD
      have hF := FR_tr hF hF_42 (by decide)
      have hFX := FX_trR hFX hF_42 (by decide) (by decide)
      have fb_43 : f_42 b = .inr (5, [.int (nI jn), .int (nI (2 * jn)), .ref b_p, .int b_l]) := FR_at hF_42 s_b (show (0 : Nat) ∉ ([13] : List Nat) by decide) fb_7
      have fb_44 : f_42 b_p = .inl (cI, b_n, .inl b_c) := FR_at hF_42 s_b_p (show (1 : Nat) ∉ ([13] : List Nat) by decide) fb_8
      have fb_45 : f_42 (g 14) = .inr (8, [.ref (g 11), .ref (g 31), .ref (g 32), .ref (g 33), .int cnt_10, .int nx_10, .int kd_10, .int vl_10, .int st_10, .int ls_10]) := FR_at hF_42 (gs_14 hG) (show (14 : Nat) ∉ ([13] : List Nat) by decide) fg_10
      exact g_zret (r_42, f_42) hx hb hr hlocks hS (b01 (by subst hj1; omega)) rfl (⟨hI, hF, show (r_42.toInt = 1 ∧ ((ks i ≠ 42 ∧ TKm cI g ks vs f_42 i ∧ RWf cI jn S f_42 b b_l.toInt w) ∨ (ks i = 42 ∧ ks (i + 1) = 1 ∧ vs (i + 1) ≠ 0 ∧ TKm cI g ks vs f_42 (i + 1 + 1) ∧ 2 * (b_l.toInt + (vs (i + 1) - 1) * (b_l.toInt - x.toInt)) ≤ (b_n : Int) ∧ RWf cI jn S f_42 b (b_l.toInt + (vs (i + 1) - 1) * (b_l.toInt - x.toInt)) (tmW w b_l.toInt x.toInt)))) ∨ (r_42.toInt = 0 ∧ ks i = 42 ∧ ¬ (ks (i + 1) = 1 ∧ vs (i + 1) ≠ 0 ∧ 2 * (b_l.toInt + (vs (i + 1) - 1) * (b_l.toInt - x.toInt)) ≤ (b_n : Int))) from (Or.inr ⟨h0_42, by omega, fun q9 => by obtain ⟨q1, q2, q3⟩ := q9; omega⟩), show FX S (fun a9 => a9 = b) [13, 14] f f_42 from (by first | assumption | omega | (subst hj1; omega)), show r_42.toInt = 0 ∨ r_42.toInt = 1 from (by first | assumption | omega | (subst hj1; omega))⟩) hP hD hQ (Nat.le_of_ble_eq_true rfl) (Nat.le_of_ble_eq_true rfl) dX4_readTimes_37
  · have kb_46 : ks (i) ≠ 42 := cK_n kk_2 c_4 (by decide)
    refine lv_iconst (v := 1) hx hb dX4_readTimes_12 (by decide) ?_
    have hz_47 : (1 : Int32).toInt = 1 := by decide
    exact g_zret ((1 : Int32), f) hx hb hr hlocks hS (by first | exact Or.inl rfl | exact Or.inr rfl) rfl (⟨hI, hF, show ((1 : Int32).toInt = 1 ∧ ((ks i ≠ 42 ∧ TKm cI g ks vs f i ∧ RWf cI jn S f b b_l.toInt w) ∨ (ks i = 42 ∧ ks (i + 1) = 1 ∧ vs (i + 1) ≠ 0 ∧ TKm cI g ks vs f (i + 1 + 1) ∧ 2 * (b_l.toInt + (vs (i + 1) - 1) * (b_l.toInt - x.toInt)) ≤ (b_n : Int) ∧ RWf cI jn S f b (b_l.toInt + (vs (i + 1) - 1) * (b_l.toInt - x.toInt)) (tmW w b_l.toInt x.toInt)))) ∨ ((1 : Int32).toInt = 0 ∧ ks i = 42 ∧ ¬ (ks (i + 1) = 1 ∧ vs (i + 1) ≠ 0 ∧ 2 * (b_l.toInt + (vs (i + 1) - 1) * (b_l.toInt - x.toInt)) ≤ (b_n : Int))) from (Or.inl ⟨rfl, Or.inl ⟨by omega, hC, ⟨b_p, b_n, b_l, b_c, s_b, s_b_p, f_b, f_b_p, rfl, hw⟩⟩⟩), show FX S (fun a9 => a9 = b) [13, 14] f f from (by first | assumption | omega | (subst hj1; omega)), show (1 : Int32).toInt = 0 ∨ (1 : Int32).toInt = 1 from (by first | assumption | omega | (subst hj1; omega))⟩) hP hD hQ (Nat.le_of_ble_eq_true rfl) (Nat.le_of_ble_eq_true rfl) dX4_readTimes_13
set_option maxRecDepth 100000 in
set_option maxHeartbeats 4000000 in
theorem t_X4_openGroupm (l : Launch) (D : va_G) (cI cR cM : ClassId) (sz : Nat) {jn : Nat} {g : Nat → Nat} {L : List Nat} {S : Sg} {f : Nat → va_E} {x y : Int32} {ks vs : Nat → Int} {i : Nat} (hj : 1 ≤ jn ∧ jn ≤ 3) (hG : SG g L S) (hI : IN jn cI cR cM g L S f) (hj1 : jn = 1) (hC : TKm cI g ks vs f i) (hKO : KO ks vs) (hx9 : x.toInt = cK (ks i)) (hki : ks i = 40 ∨ (7 ≤ ks i ∧ ks i ≤ 10)) (hy0 : 0 ≤ y.toInt ∧ y.toInt ≤ 5) : Met l yX4_openGroup wsX4_openGroup ({ frames := 2, cells := 0, slots := 0, locals := 42 }) (P0 D cI cR cM [.ref (g 13), .int x, .int y] sz (va_pl L f)) (QG (S := Int32 × (Nat → va_E)) (fun u => some (.int u.1)) (fun u => va_pl L u.2) (fun u => IN jn cI cR cM g L S u.2 ∧ FR S [13, 14, 34] f u.2 ∧ ((u.1.toInt = 1 ∧ y.toInt < 5 ∧ ((ks i = 40 ∧ TKm cI g ks vs u.2 (i + 1)) ∨ ((7 ≤ ks i ∧ ks i ≤ 9) ∧ ks (i + 1) = 40 ∧ TKm cI g ks vs u.2 (i + 2)) ∨ (ks i = 10 ∧ ks (i + 1) = 1 ∧ ks (i + 2) = 40 ∧ TKm cI g ks vs u.2 (i + 3) ∧ TNf cI g u.2 y.toInt (vs (i + 1))))) ∨ (u.1.toInt = 0 ∧ ¬ (y.toInt < 5 ∧ (ks i = 40 ∨ ((7 ≤ ks i ∧ ks i ≤ 9) ∧ ks (i + 1) = 40) ∨ (ks i = 10 ∧ ks (i + 1) = 1 ∧ ks (i + 2) = 40))))) ∧ (∀ k9 v9 : Int, 0 ≤ k9 → k9 ≠ y.toInt → TNf cI g f k9 v9 → TNf cI g u.2 k9 v9) ∧ (FX S (fun _ => False) [13, 14, 34] f u.2) ∧ (u.1.toInt = 0 ∨ u.1.toInt = 1)) D (va_A (va_pl L f) sz)) 0 0 (va_A (va_pl L f) sz) := by
  refine go (cc := cX4_openGroup) (maxL := 3) (ret := (some .boolean)) (by decide +kernel) rfl (Nat.le_of_ble_eq_true rfl) ?_
  intro p e s m below meth c ls args Q hQ hsz hx hb hr hml hts hown hlocks hnm hP hK hD hl
  subst hsz
  have hD := hD.self (sz := s.heap.size)
  generalize hAe : va_A (va_pl L f) s.heap.size = A at hD hQ
  have hA : ∀ q, s.heap.size ≤ q → A q := fun q h => by rw [← hAe]; exact Or.inr h
  have hS : va_S A s.heap s.heap [] := va_S.rf
  have hFX : FX S (fun _ => False) [13, 14, 34] f f := FX_rf
  have hF : FR S [13, 14, 34] f f := FR_rf
  have hl : lv_has ls 3 [(0, .ref (g 13)), (1, .int x), (2, .int y)] := hl
  obtain ⟨c_1, fg_1⟩ := op_34 hI (gm_34 hG) (gs_34 hG)
  have kk_0 := hx9
  refine lv_iload_n hx hb dX4_openGroup_0 rfl (lv_at hl 1 rfl) ?_
  refine lv_bipush (v := 40) hx hb dX4_openGroup_1 (by decide) ?_
  refine a_icmp_eq (u := x.toInt) (v := 40) (tgt := 13) hx hb dX4_openGroup_3 (by decide) (rfl) (by decide) (fun c_2 => ?_) (fun c_2 => ?_)
  · have kb_3 : ks i = 40 := cK_p (hKO i).1 (Or.inr ⟨by decide, by decide⟩) kk_0 c_2 (by decide)
    refine lv_iload_n hx hb dX4_openGroup_13 rfl (lv_at hl 1 rfl) ?_
    refine lv_bipush (v := 9) hx hb dX4_openGroup_14 (by decide) ?_
    refine a_icmp_ne (u := x.toInt) (v := 9) (tgt := 42) hx hb dX4_openGroup_16 (by decide) (rfl) (by decide) (fun c_4 => ?_) (fun c_4 => absurd c_4 (by subst hj1; omega))
    refine lv_aload_n hx hb dX4_openGroup_42 rfl (lv_at hl 0 rfl) ?_
    obtain ⟨cnt_5, nx_5, kd_5, vl_5, st_5, ls_5, fg_5, iv0_5, iv1_5, iv2_5⟩ := op_14 hI (gm_14 hG) (gs_14 hG)
    obtain ⟨kk_6, kv_6⟩ := TKm_k hC fg_5
    obtain ⟨fa_7, pl_7, fg_7⟩ := op_13 hI (gm_13 hG) (gs_13 hG)
    refine t_get (D := D) (L := L) (f := f) (ci := 4) (v := .ref (g 14)) (C := RX4) (T := TX4) (N := 11) hx hb hts (by decide +kernel) hown hK.1 hP (gm_13 hG) fg_7 rfl 1 (by decide) (hts (.fieldLink RX4 41 "JugglingHall$Reader" "tokens" "LJugglingHall$Tokens;") (by decide +kernel)) (fun _ h9 => h9) rfl dX4_openGroup_43 ?_
    refine t_getN (D := D) (L := L) (f := f) (ci := 8) (v := .int kd_5) (C := RX8) (T := TX8) (N := 10) (host := "JugglingHall") hx hb hts (by decide +kernel) hown hK.1 hP (gm_14 hG) fg_5 rfl 6 (by decide) (hK.nw (.fieldLinkNest RX4 70 "JugglingHall$Tokens" "kind" "I" "JugglingHall") (by decide +kernel) rfl) (fun _ h9 => h9) rfl dX4_openGroup_46 ?_
    refine lv_bipush (v := 40) hx hb dX4_openGroup_49 (by decide) ?_
    refine a_icmp_ne (u := kd_5.toInt) (v := 40) (tgt := 65) hx hb dX4_openGroup_51 (by decide) (rfl) (by decide) (fun c_8 => ?_) (fun c_8 => ?_)
    · have kb_9 : ks (i) ≠ 40 := cK_n kk_6 c_8 (by decide)
      refine lv_aload_n hx hb dX4_openGroup_65 rfl (lv_at hl 0 rfl) ?_
      refine lv_bipush (v := 40) hx hb dX4_openGroup_66 (by decide) ?_
      have hz_10 : (40 : Int32).toInt = 40 := by decide
      refine call_p (va_runV (As := [.int 40]) (rest := []) ⟨hx, hb, hml, hown, hts⟩ (t_X4_expectm l D cI cR cM _ (ks := ks) (vs := vs) (i := i) (K9 := 40)  hj hG hI  (by first | assumption | omega | (subst hj1; omega)) (hC) (by first | assumption | omega | (subst hj1; omega)) (by decide) (Or.inr ⟨by decide, by decide⟩)) (cwV 1 hts gX4_openGroup_X4_expect rfl rfl rfl (by decide +kernel) ⟨Nat.le_of_ble_eq_true rfl, Nat.le_of_ble_eq_true rfl⟩) (pre_T hK hP hD (gm_13 hG) fg_7 rfl) rfl rfl hl.1 rfl (lv_room (Nat.le_of_ble_eq_true rfl)) dX4_openGroup_68 ⟨Nat.le_of_ble_eq_true rfl, Nat.le_of_ble_eq_true rfl⟩) hD hS hA (fun u_11 H locs hw hP hD hS => ?_)
      obtain ⟨r_11, f_11⟩ := u_11
      obtain ⟨hI, hF_11, hp_11, hfx_11, h01_11⟩ : IN jn cI cR cM g L S f_11 ∧ FR S [13, 14] f f_11 ∧ ((r_11.toInt = 1 ∧ ks (i) = 40 ∧ TKm cI g ks vs f_11 ((i) + 1)) ∨ (r_11.toInt = 0 ∧ ks (i) ≠ 40)) ∧ (FX S (fun _ => False) [13, 14] f f_11) ∧ (r_11.toInt = 0 ∨ r_11.toInt = 1) := hw
      have hP : va_P D vwCl (va_pl L f_11) H := hP
      have hD : va_D A (va_pl L f_11) := hD
      have hF := FR_tr hF hF_11 (by decide)
      have hFX := FX_tr hFX hfx_11 (fun _ h9 => h9.elim) (by decide)
      have fb_12 : f_11 (g 34) = .inl (cI, 6, .inl c_1) := FR_at hF_11 (gs_34 hG) (show (34 : Nat) ∉ ([13, 14] : List Nat) by decide) fg_1
      exact g_zret (r_11, f_11) hx hb hr hlocks hS (b01 (by subst hj1; omega)) rfl (⟨hI, hF, show (r_11.toInt = 1 ∧ y.toInt < 5 ∧ ((ks i = 40 ∧ TKm cI g ks vs f_11 (i + 1)) ∨ ((7 ≤ ks i ∧ ks i ≤ 9) ∧ ks (i + 1) = 40 ∧ TKm cI g ks vs f_11 (i + 2)) ∨ (ks i = 10 ∧ ks (i + 1) = 1 ∧ ks (i + 2) = 40 ∧ TKm cI g ks vs f_11 (i + 3) ∧ TNf cI g f_11 y.toInt (vs (i + 1))))) ∨ (r_11.toInt = 0 ∧ ¬ (y.toInt < 5 ∧ (ks i = 40 ∨ ((7 ≤ ks i ∧ ks i ≤ 9) ∧ ks (i + 1) = 40) ∨ (ks i = 10 ∧ ks (i + 1) = 1 ∧ ks (i + 2) = 40)))) from (by
        rcases hp_11 with ⟨h5, h6, h7⟩ | ⟨h5, h6⟩
        · have h6 : ks (i) = 40 := h6
          have h7 : TKm cI g ks vs f_11 (i + 1) := h7
          exact Or.inl ⟨h5, by omega, Or.inl ⟨by omega, h7⟩⟩
        · have h6 : ks (i) ≠ 40 := h6
          exact Or.inr ⟨h5, fun q9 => by obtain ⟨q1, q2⟩ := q9; omega⟩), show ∀ k9 v9 : Int, 0 ≤ k9 → k9 ≠ y.toInt → TNf cI g f k9 v9 → TNf cI g f_11 k9 v9 from (fun k9 v9 h0 hn ⟨ct, q1, q2⟩ => by
        rw [fg_1] at q1
        cases q1
        exact ⟨_, fb_12, q2⟩), show FX S (fun _ => False) [13, 14, 34] f f_11 from (by first | assumption | omega | (subst hj1; omega)), show r_11.toInt = 0 ∨ r_11.toInt = 1 from (by first | assumption | omega | (subst hj1; omega))⟩) hP hD hQ (Nat.le_of_ble_eq_true rfl) (Nat.le_of_ble_eq_true rfl) dX4_openGroup_71
    · have kb_13 : ks (i) = 40 := cK_p (hKO (i)).1 (Or.inr ⟨by decide, by decide⟩) kk_6 c_8 (by decide)
      refine lv_iload_n hx hb dX4_openGroup_54 rfl (lv_at hl 2 rfl) ?_
      refine lv_iconst (v := 5) hx hb dX4_openGroup_55 (by decide) ?_
      refine a_icmp_lt (u := y.toInt) (v := 5) (tgt := 65) hx hb dX4_openGroup_56 (by decide) (rfl) (by decide) (fun c_14 => ?_) (fun c_14 => ?_)
      · refine lv_aload_n hx hb dX4_openGroup_65 rfl (lv_at hl 0 rfl) ?_
        refine lv_bipush (v := 40) hx hb dX4_openGroup_66 (by decide) ?_
        have hz_15 : (40 : Int32).toInt = 40 := by decide
        refine call_p (va_runV (As := [.int 40]) (rest := []) ⟨hx, hb, hml, hown, hts⟩ (t_X4_expectm l D cI cR cM _ (ks := ks) (vs := vs) (i := i) (K9 := 40)  hj hG hI  (by first | assumption | omega | (subst hj1; omega)) (hC) (by first | assumption | omega | (subst hj1; omega)) (by decide) (Or.inr ⟨by decide, by decide⟩)) (cwV 1 hts gX4_openGroup_X4_expect rfl rfl rfl (by decide +kernel) ⟨Nat.le_of_ble_eq_true rfl, Nat.le_of_ble_eq_true rfl⟩) (pre_T hK hP hD (gm_13 hG) fg_7 rfl) rfl rfl hl.1 rfl (lv_room (Nat.le_of_ble_eq_true rfl)) dX4_openGroup_68 ⟨Nat.le_of_ble_eq_true rfl, Nat.le_of_ble_eq_true rfl⟩) hD hS hA (fun u_16 H locs hw hP hD hS => ?_)
        obtain ⟨r_16, f_16⟩ := u_16
        obtain ⟨hI, hF_16, hp_16, hfx_16, h01_16⟩ : IN jn cI cR cM g L S f_16 ∧ FR S [13, 14] f f_16 ∧ ((r_16.toInt = 1 ∧ ks (i) = 40 ∧ TKm cI g ks vs f_16 ((i) + 1)) ∨ (r_16.toInt = 0 ∧ ks (i) ≠ 40)) ∧ (FX S (fun _ => False) [13, 14] f f_16) ∧ (r_16.toInt = 0 ∨ r_16.toInt = 1) := hw
        have hP : va_P D vwCl (va_pl L f_16) H := hP
        have hD : va_D A (va_pl L f_16) := hD
        have hF := FR_tr hF hF_16 (by decide)
        have hFX := FX_tr hFX hfx_16 (fun _ h9 => h9.elim) (by decide)
        have fb_17 : f_16 (g 34) = .inl (cI, 6, .inl c_1) := FR_at hF_16 (gs_34 hG) (show (34 : Nat) ∉ ([13, 14] : List Nat) by decide) fg_1
        exact g_zret (r_16, f_16) hx hb hr hlocks hS (b01 (by subst hj1; omega)) rfl (⟨hI, hF, show (r_16.toInt = 1 ∧ y.toInt < 5 ∧ ((ks i = 40 ∧ TKm cI g ks vs f_16 (i + 1)) ∨ ((7 ≤ ks i ∧ ks i ≤ 9) ∧ ks (i + 1) = 40 ∧ TKm cI g ks vs f_16 (i + 2)) ∨ (ks i = 10 ∧ ks (i + 1) = 1 ∧ ks (i + 2) = 40 ∧ TKm cI g ks vs f_16 (i + 3) ∧ TNf cI g f_16 y.toInt (vs (i + 1))))) ∨ (r_16.toInt = 0 ∧ ¬ (y.toInt < 5 ∧ (ks i = 40 ∨ ((7 ≤ ks i ∧ ks i ≤ 9) ∧ ks (i + 1) = 40) ∨ (ks i = 10 ∧ ks (i + 1) = 1 ∧ ks (i + 2) = 40)))) from (by
          rcases hp_16 with ⟨h5, h6, h7⟩ | ⟨h5, h6⟩
          · have h6 : ks (i) = 40 := h6
            have h7 : TKm cI g ks vs f_16 (i + 1) := h7
            exact Or.inl ⟨h5, by omega, Or.inl ⟨by omega, h7⟩⟩
          · have h6 : ks (i) ≠ 40 := h6
            exact Or.inr ⟨h5, fun q9 => by obtain ⟨q1, q2⟩ := q9; omega⟩), show ∀ k9 v9 : Int, 0 ≤ k9 → k9 ≠ y.toInt → TNf cI g f k9 v9 → TNf cI g f_16 k9 v9 from (fun k9 v9 h0 hn ⟨ct, q1, q2⟩ => by
          rw [fg_1] at q1
          cases q1
          exact ⟨_, fb_17, q2⟩), show FX S (fun _ => False) [13, 14, 34] f f_16 from (by first | assumption | omega | (subst hj1; omega)), show r_16.toInt = 0 ∨ r_16.toInt = 1 from (by first | assumption | omega | (subst hj1; omega))⟩) hP hD hQ (Nat.le_of_ble_eq_true rfl) (Nat.le_of_ble_eq_true rfl) dX4_openGroup_71
      · refine lv_aload_n hx hb dX4_openGroup_59 rfl (lv_at hl 0 rfl) ?_
        refine lv_iconst (v := 3) hx hb dX4_openGroup_60 (by decide) ?_
        have hz_18 : (3 : Int32).toInt = 3 := by decide
        refine call_p (va_runV (As := [.int 3]) (rest := []) ⟨hx, hb, hml, hown, hts⟩ (t_X4_fail l D cI cR cM _   hj hG hI  ) (cwV 1 hts gX4_openGroup_X4_fail rfl rfl rfl (by decide +kernel) ⟨Nat.le_of_ble_eq_true rfl, Nat.le_of_ble_eq_true rfl⟩) (pre_T hK hP hD (gm_13 hG) fg_7 rfl) rfl rfl hl.1 rfl (lv_room (Nat.le_of_ble_eq_true rfl)) dX4_openGroup_61 ⟨Nat.le_of_ble_eq_true rfl, Nat.le_of_ble_eq_true rfl⟩) hD hS hA (fun u_19 H locs hw hP hD hS => ?_)
        obtain ⟨r_19, f_19⟩ := u_19
        obtain ⟨hI, hF_19, h0_19, h01_19⟩ : IN jn cI cR cM g L S f_19 ∧ FR S [13] f f_19 ∧ (r_19.toInt = 0) ∧ (r_19.toInt = 0 ∨ r_19.toInt = 1) := hw
        have hP : va_P D vwCl (va_pl L f_19) H := hP
        have hD : va_D A (va_pl L f_19) := hD
        have hF := FR_tr hF hF_19 (by decide)
        have hFX := FX_trR hFX hF_19 (by decide) (by decide)
        have fb_20 : f_19 (g 34) = .inl (cI, 6, .inl c_1) := FR_at hF_19 (gs_34 hG) (show (34 : Nat) ∉ ([13] : List Nat) by decide) fg_1
        have fb_21 : f_19 (g 14) = .inr (8, [.ref (g 11), .ref (g 31), .ref (g 32), .ref (g 33), .int cnt_5, .int nx_5, .int kd_5, .int vl_5, .int st_5, .int ls_5]) := FR_at hF_19 (gs_14 hG) (show (14 : Nat) ∉ ([13] : List Nat) by decide) fg_5
        exact g_zret (r_19, f_19) hx hb hr hlocks hS (b01 (by subst hj1; omega)) rfl (⟨hI, hF, show (r_19.toInt = 1 ∧ y.toInt < 5 ∧ ((ks i = 40 ∧ TKm cI g ks vs f_19 (i + 1)) ∨ ((7 ≤ ks i ∧ ks i ≤ 9) ∧ ks (i + 1) = 40 ∧ TKm cI g ks vs f_19 (i + 2)) ∨ (ks i = 10 ∧ ks (i + 1) = 1 ∧ ks (i + 2) = 40 ∧ TKm cI g ks vs f_19 (i + 3) ∧ TNf cI g f_19 y.toInt (vs (i + 1))))) ∨ (r_19.toInt = 0 ∧ ¬ (y.toInt < 5 ∧ (ks i = 40 ∨ ((7 ≤ ks i ∧ ks i ≤ 9) ∧ ks (i + 1) = 40) ∨ (ks i = 10 ∧ ks (i + 1) = 1 ∧ ks (i + 2) = 40)))) from (Or.inr ⟨h0_19, fun q9 => by have := q9.1; omega⟩), show ∀ k9 v9 : Int, 0 ≤ k9 → k9 ≠ y.toInt → TNf cI g f k9 v9 → TNf cI g f_19 k9 v9 from (fun k9 v9 h0 hn ⟨ct, q1, q2⟩ => by
          rw [fg_1] at q1
          cases q1
          exact ⟨_, fb_20, q2⟩), show FX S (fun _ => False) [13, 14, 34] f f_19 from (by first | assumption | omega | (subst hj1; omega)), show r_19.toInt = 0 ∨ r_19.toInt = 1 from (by first | assumption | omega | (subst hj1; omega))⟩) hP hD hQ (Nat.le_of_ble_eq_true rfl) (Nat.le_of_ble_eq_true rfl) dX4_openGroup_64
  · have kb_22 : ks i ≠ 40 := cK_n kk_0 c_2 (by decide)
    refine lv_aload_n hx hb dX4_openGroup_6 rfl (lv_at hl 0 rfl) ?_
    obtain ⟨fa_23, pl_23, fg_23⟩ := op_13 hI (gm_13 hG) (gs_13 hG)
    refine t_get (D := D) (L := L) (f := f) (ci := 4) (v := .ref (g 14)) (C := RX4) (T := TX4) (N := 11) hx hb hts (by decide +kernel) hown hK.1 hP (gm_13 hG) fg_23 rfl 1 (by decide) (hts (.fieldLink RX4 41 "JugglingHall$Reader" "tokens" "LJugglingHall$Tokens;") (by decide +kernel)) (fun _ h9 => h9) rfl dX4_openGroup_7 ?_
    obtain ⟨cnt_24, nx_24, kd_24, vl_24, st_24, ls_24, fg_24, iv0_24, iv1_24, iv2_24⟩ := op_14 hI (gm_14 hG) (gs_14 hG)
    refine call_p (va_runV (As := []) (rest := []) ⟨hx, hb, hml, hown, hts⟩ (t_X8_advancem l D cI cR cM _ (ks := ks) (vs := vs) (i := i)  hj hG hI  (by first | assumption | omega | (subst hj1; omega)) (hC)) (cwV 0 hts gX4_openGroup_X8_advance rfl rfl rfl (by decide +kernel) ⟨Nat.le_of_ble_eq_true rfl, Nat.le_of_ble_eq_true rfl⟩) (pre_T hK hP hD (gm_14 hG) fg_24 rfl) rfl rfl hl.1 rfl (lv_room (Nat.le_of_ble_eq_true rfl)) dX4_openGroup_10 ⟨Nat.le_of_ble_eq_true rfl, Nat.le_of_ble_eq_true rfl⟩) hD hS hA (fun u_25 H locs hw hP hD hS => ?_)
    obtain ⟨f_25, e0_25⟩ : ∃ x, x = u_25 := ⟨_, rfl⟩
    subst e0_25
    obtain ⟨hI, hF_25, hC_25, hfx_25⟩ : IN jn cI cR cM g L S f_25 ∧ FR S [14] f f_25 ∧ (TKm cI g ks vs f_25 ((i) + 1)) ∧ (FX S (fun _ => False) [14] f f_25) := hw
    have hP : va_P D vwCl (va_pl L f_25) H := hP
    have hD : va_D A (va_pl L f_25) := hD
    have hF := FR_tr hF hF_25 (by decide)
    have hFX := FX_tr hFX hfx_25 (fun _ h9 => h9.elim) (by decide)
    have fb_26 : f_25 (g 34) = .inl (cI, 6, .inl c_1) := FR_at hF_25 (gs_34 hG) (show (34 : Nat) ∉ ([14] : List Nat) by decide) fg_1
    have fb_27 : f_25 (g 13) = .inr (4, [.int (nI jn), .ref (g 14), .ref (g 12), .ref (g 22), .ref (g 34), .ref (g 23), .ref (g 24), .ref (g 25), .ref (g 26), .int fa_23, .int pl_23]) := FR_at hF_25 (gs_13 hG) (show (13 : Nat) ∉ ([14] : List Nat) by decide) fg_23
    have hCm_25 : TKm cI g ks vs f_25 (i + 1) := hC_25
    refine lv_iload_n hx hb dX4_openGroup_13 rfl (lv_at hl 1 rfl) ?_
    refine lv_bipush (v := 9) hx hb dX4_openGroup_14 (by decide) ?_
    refine a_icmp_ne (u := x.toInt) (v := 9) (tgt := 42) hx hb dX4_openGroup_16 (by decide) (rfl) (by decide) (fun c_28 => ?_) (fun c_28 => ?_)
    · have kb_29 : ks i ≠ 10 := cK_n kk_0 c_28 (by decide)
      refine lv_aload_n hx hb dX4_openGroup_42 rfl (lv_at hl 0 rfl) ?_
      obtain ⟨cnt_30, nx_30, kd_30, vl_30, st_30, ls_30, fg_30, iv0_30, iv1_30, iv2_30⟩ := op_14 hI (gm_14 hG) (gs_14 hG)
      obtain ⟨kk_31, kv_31⟩ := TKm_k hCm_25 fg_30
      refine t_get (D := D) (L := L) (f := f_25) (ci := 4) (v := .ref (g 14)) (C := RX4) (T := TX4) (N := 11) hx hb hts (by decide +kernel) hown hK.1 hP (gm_13 hG) fb_27 rfl 1 (by decide) (hts (.fieldLink RX4 41 "JugglingHall$Reader" "tokens" "LJugglingHall$Tokens;") (by decide +kernel)) (fun _ h9 => h9) rfl dX4_openGroup_43 ?_
      refine t_getN (D := D) (L := L) (f := f_25) (ci := 8) (v := .int kd_30) (C := RX8) (T := TX8) (N := 10) (host := "JugglingHall") hx hb hts (by decide +kernel) hown hK.1 hP (gm_14 hG) fg_30 rfl 6 (by decide) (hK.nw (.fieldLinkNest RX4 70 "JugglingHall$Tokens" "kind" "I" "JugglingHall") (by decide +kernel) rfl) (fun _ h9 => h9) rfl dX4_openGroup_46 ?_
      refine lv_bipush (v := 40) hx hb dX4_openGroup_49 (by decide) ?_
      refine a_icmp_ne (u := kd_30.toInt) (v := 40) (tgt := 65) hx hb dX4_openGroup_51 (by decide) (rfl) (by decide) (fun c_32 => ?_) (fun c_32 => ?_)
      · have kb_33 : ks (i + 1) ≠ 40 := cK_n kk_31 c_32 (by decide)
        refine lv_aload_n hx hb dX4_openGroup_65 rfl (lv_at hl 0 rfl) ?_
        refine lv_bipush (v := 40) hx hb dX4_openGroup_66 (by decide) ?_
        have hz_34 : (40 : Int32).toInt = 40 := by decide
        refine call_p (va_runV (As := [.int 40]) (rest := []) ⟨hx, hb, hml, hown, hts⟩ (t_X4_expectm l D cI cR cM _ (ks := ks) (vs := vs) (i := i + 1) (K9 := 40)  hj hG hI  (by first | assumption | omega | (subst hj1; omega)) (hCm_25) (by first | assumption | omega | (subst hj1; omega)) (by decide) (Or.inr ⟨by decide, by decide⟩)) (cwV 1 hts gX4_openGroup_X4_expect rfl rfl rfl (by decide +kernel) ⟨Nat.le_of_ble_eq_true rfl, Nat.le_of_ble_eq_true rfl⟩) (pre_T hK hP hD (gm_13 hG) fb_27 rfl) rfl rfl hl.1 rfl (lv_room (Nat.le_of_ble_eq_true rfl)) dX4_openGroup_68 ⟨Nat.le_of_ble_eq_true rfl, Nat.le_of_ble_eq_true rfl⟩) hD hS hA (fun u_35 H locs hw hP hD hS => ?_)
        obtain ⟨r_35, f_35⟩ := u_35
        obtain ⟨hI, hF_35, hp_35, hfx_35, h01_35⟩ : IN jn cI cR cM g L S f_35 ∧ FR S [13, 14] f_25 f_35 ∧ ((r_35.toInt = 1 ∧ ks (i + 1) = 40 ∧ TKm cI g ks vs f_35 ((i + 1) + 1)) ∨ (r_35.toInt = 0 ∧ ks (i + 1) ≠ 40)) ∧ (FX S (fun _ => False) [13, 14] f_25 f_35) ∧ (r_35.toInt = 0 ∨ r_35.toInt = 1) := hw
        have hP : va_P D vwCl (va_pl L f_35) H := hP
        have hD : va_D A (va_pl L f_35) := hD
        have hF := FR_tr hF hF_35 (by decide)
        have hFX := FX_tr hFX hfx_35 (fun _ h9 => h9.elim) (by decide)
        have fb_36 : f_35 (g 34) = .inl (cI, 6, .inl c_1) := FR_at hF_35 (gs_34 hG) (show (34 : Nat) ∉ ([13, 14] : List Nat) by decide) fb_26
        exact g_zret (r_35, f_35) hx hb hr hlocks hS (b01 (by subst hj1; omega)) rfl (⟨hI, hF, show (r_35.toInt = 1 ∧ y.toInt < 5 ∧ ((ks i = 40 ∧ TKm cI g ks vs f_35 (i + 1)) ∨ ((7 ≤ ks i ∧ ks i ≤ 9) ∧ ks (i + 1) = 40 ∧ TKm cI g ks vs f_35 (i + 2)) ∨ (ks i = 10 ∧ ks (i + 1) = 1 ∧ ks (i + 2) = 40 ∧ TKm cI g ks vs f_35 (i + 3) ∧ TNf cI g f_35 y.toInt (vs (i + 1))))) ∨ (r_35.toInt = 0 ∧ ¬ (y.toInt < 5 ∧ (ks i = 40 ∨ ((7 ≤ ks i ∧ ks i ≤ 9) ∧ ks (i + 1) = 40) ∨ (ks i = 10 ∧ ks (i + 1) = 1 ∧ ks (i + 2) = 40)))) from (by
          rcases hp_35 with ⟨h5, h6, h7⟩ | ⟨h5, h6⟩
          · have h6 : ks (i + 1) = 40 := h6
            have h7 : TKm cI g ks vs f_35 (i + 2) := h7
            exact Or.inl ⟨h5, by omega, Or.inr (Or.inl ⟨⟨by omega, by omega⟩, h6, h7⟩)⟩
          · have h6 : ks (i + 1) ≠ 40 := h6
            exact Or.inr ⟨h5, fun q9 => by obtain ⟨q1, q2⟩ := q9; omega⟩), show ∀ k9 v9 : Int, 0 ≤ k9 → k9 ≠ y.toInt → TNf cI g f k9 v9 → TNf cI g f_35 k9 v9 from (fun k9 v9 h0 hn ⟨ct, q1, q2⟩ => by
          rw [fg_1] at q1
          cases q1
          exact ⟨_, fb_36, q2⟩), show FX S (fun _ => False) [13, 14, 34] f f_35 from (by first | assumption | omega | (subst hj1; omega)), show r_35.toInt = 0 ∨ r_35.toInt = 1 from (by first | assumption | omega | (subst hj1; omega))⟩) hP hD hQ (Nat.le_of_ble_eq_true rfl) (Nat.le_of_ble_eq_true rfl) dX4_openGroup_71
      · have kb_37 : ks (i + 1) = 40 := cK_p (hKO (i + 1)).1 (Or.inr ⟨by decide, by decide⟩) kk_31 c_32 (by decide)
        refine lv_iload_n hx hb dX4_openGroup_54 rfl (lv_at hl 2 rfl) ?_
        refine lv_iconst (v := 5) hx hb dX4_openGroup_55 (by decide) ?_
        refine a_icmp_lt (u := y.toInt) (v := 5) (tgt := 65) hx hb dX4_openGroup_56 (by decide) (rfl) (by decide) (fun c_38 => ?_) (fun c_38 => ?_)
        · refine lv_aload_n hx hb dX4_openGroup_65 rfl (lv_at hl 0 rfl) ?_
          refine lv_bipush (v := 40) hx hb dX4_openGroup_66 (by decide) ?_
          have hz_39 : (40 : Int32).toInt = 40 := by decide
          refine call_p (va_runV (As := [.int 40]) (rest := []) ⟨hx, hb, hml, hown, hts⟩ (t_X4_expectm l D cI cR cM _ (ks := ks) (vs := vs) (i := i + 1) (K9 := 40)  hj hG hI  (by first | assumption | omega | (subst hj1; omega)) (hCm_25) (by first | assumption | omega | (subst hj1; omega)) (by decide) (Or.inr ⟨by decide, by decide⟩)) (cwV 1 hts gX4_openGroup_X4_expect rfl rfl rfl (by decide +kernel) ⟨Nat.le_of_ble_eq_true rfl, Nat.le_of_ble_eq_true rfl⟩) (pre_T hK hP hD (gm_13 hG) fb_27 rfl) rfl rfl hl.1 rfl (lv_room (Nat.le_of_ble_eq_true rfl)) dX4_openGroup_68 ⟨Nat.le_of_ble_eq_true rfl, Nat.le_of_ble_eq_true rfl⟩) hD hS hA (fun u_40 H locs hw hP hD hS => ?_)
          obtain ⟨r_40, f_40⟩ := u_40
          obtain ⟨hI, hF_40, hp_40, hfx_40, h01_40⟩ : IN jn cI cR cM g L S f_40 ∧ FR S [13, 14] f_25 f_40 ∧ ((r_40.toInt = 1 ∧ ks (i + 1) = 40 ∧ TKm cI g ks vs f_40 ((i + 1) + 1)) ∨ (r_40.toInt = 0 ∧ ks (i + 1) ≠ 40)) ∧ (FX S (fun _ => False) [13, 14] f_25 f_40) ∧ (r_40.toInt = 0 ∨ r_40.toInt = 1) := hw
          have hP : va_P D vwCl (va_pl L f_40) H := hP
          have hD : va_D A (va_pl L f_40) := hD
          have hF := FR_tr hF hF_40 (by decide)
          have hFX := FX_tr hFX hfx_40 (fun _ h9 => h9.elim) (by decide)
          have fb_41 : f_40 (g 34) = .inl (cI, 6, .inl c_1) := FR_at hF_40 (gs_34 hG) (show (34 : Nat) ∉ ([13, 14] : List Nat) by decide) fb_26
          exact g_zret (r_40, f_40) hx hb hr hlocks hS (b01 (by subst hj1; omega)) rfl (⟨hI, hF, show (r_40.toInt = 1 ∧ y.toInt < 5 ∧ ((ks i = 40 ∧ TKm cI g ks vs f_40 (i + 1)) ∨ ((7 ≤ ks i ∧ ks i ≤ 9) ∧ ks (i + 1) = 40 ∧ TKm cI g ks vs f_40 (i + 2)) ∨ (ks i = 10 ∧ ks (i + 1) = 1 ∧ ks (i + 2) = 40 ∧ TKm cI g ks vs f_40 (i + 3) ∧ TNf cI g f_40 y.toInt (vs (i + 1))))) ∨ (r_40.toInt = 0 ∧ ¬ (y.toInt < 5 ∧ (ks i = 40 ∨ ((7 ≤ ks i ∧ ks i ≤ 9) ∧ ks (i + 1) = 40) ∨ (ks i = 10 ∧ ks (i + 1) = 1 ∧ ks (i + 2) = 40)))) from (by
            rcases hp_40 with ⟨h5, h6, h7⟩ | ⟨h5, h6⟩
            · have h6 : ks (i + 1) = 40 := h6
              have h7 : TKm cI g ks vs f_40 (i + 2) := h7
              exact Or.inl ⟨h5, by omega, Or.inr (Or.inl ⟨⟨by omega, by omega⟩, h6, h7⟩)⟩
            · have h6 : ks (i + 1) ≠ 40 := h6
              exact Or.inr ⟨h5, fun q9 => by obtain ⟨q1, q2⟩ := q9; omega⟩), show ∀ k9 v9 : Int, 0 ≤ k9 → k9 ≠ y.toInt → TNf cI g f k9 v9 → TNf cI g f_40 k9 v9 from (fun k9 v9 h0 hn ⟨ct, q1, q2⟩ => by
            rw [fg_1] at q1
            cases q1
            exact ⟨_, fb_41, q2⟩), show FX S (fun _ => False) [13, 14, 34] f f_40 from (by first | assumption | omega | (subst hj1; omega)), show r_40.toInt = 0 ∨ r_40.toInt = 1 from (by first | assumption | omega | (subst hj1; omega))⟩) hP hD hQ (Nat.le_of_ble_eq_true rfl) (Nat.le_of_ble_eq_true rfl) dX4_openGroup_71
        · refine lv_aload_n hx hb dX4_openGroup_59 rfl (lv_at hl 0 rfl) ?_
          refine lv_iconst (v := 3) hx hb dX4_openGroup_60 (by decide) ?_
          have hz_42 : (3 : Int32).toInt = 3 := by decide
          refine call_p (va_runV (As := [.int 3]) (rest := []) ⟨hx, hb, hml, hown, hts⟩ (t_X4_fail l D cI cR cM _   hj hG hI  ) (cwV 1 hts gX4_openGroup_X4_fail rfl rfl rfl (by decide +kernel) ⟨Nat.le_of_ble_eq_true rfl, Nat.le_of_ble_eq_true rfl⟩) (pre_T hK hP hD (gm_13 hG) fb_27 rfl) rfl rfl hl.1 rfl (lv_room (Nat.le_of_ble_eq_true rfl)) dX4_openGroup_61 ⟨Nat.le_of_ble_eq_true rfl, Nat.le_of_ble_eq_true rfl⟩) hD hS hA (fun u_43 H locs hw hP hD hS => ?_)
          obtain ⟨r_43, f_43⟩ := u_43
          obtain ⟨hI, hF_43, h0_43, h01_43⟩ : IN jn cI cR cM g L S f_43 ∧ FR S [13] f_25 f_43 ∧ (r_43.toInt = 0) ∧ (r_43.toInt = 0 ∨ r_43.toInt = 1) := hw
          have hP : va_P D vwCl (va_pl L f_43) H := hP
          have hD : va_D A (va_pl L f_43) := hD
          have hF := FR_tr hF hF_43 (by decide)
          have hFX := FX_trR hFX hF_43 (by decide) (by decide)
          have fb_44 : f_43 (g 34) = .inl (cI, 6, .inl c_1) := FR_at hF_43 (gs_34 hG) (show (34 : Nat) ∉ ([13] : List Nat) by decide) fb_26
          have fb_45 : f_43 (g 14) = .inr (8, [.ref (g 11), .ref (g 31), .ref (g 32), .ref (g 33), .int cnt_30, .int nx_30, .int kd_30, .int vl_30, .int st_30, .int ls_30]) := FR_at hF_43 (gs_14 hG) (show (14 : Nat) ∉ ([13] : List Nat) by decide) fg_30
          exact g_zret (r_43, f_43) hx hb hr hlocks hS (b01 (by subst hj1; omega)) rfl (⟨hI, hF, show (r_43.toInt = 1 ∧ y.toInt < 5 ∧ ((ks i = 40 ∧ TKm cI g ks vs f_43 (i + 1)) ∨ ((7 ≤ ks i ∧ ks i ≤ 9) ∧ ks (i + 1) = 40 ∧ TKm cI g ks vs f_43 (i + 2)) ∨ (ks i = 10 ∧ ks (i + 1) = 1 ∧ ks (i + 2) = 40 ∧ TKm cI g ks vs f_43 (i + 3) ∧ TNf cI g f_43 y.toInt (vs (i + 1))))) ∨ (r_43.toInt = 0 ∧ ¬ (y.toInt < 5 ∧ (ks i = 40 ∨ ((7 ≤ ks i ∧ ks i ≤ 9) ∧ ks (i + 1) = 40) ∨ (ks i = 10 ∧ ks (i + 1) = 1 ∧ ks (i + 2) = 40)))) from (Or.inr ⟨h0_43, fun q9 => by have := q9.1; omega⟩), show ∀ k9 v9 : Int, 0 ≤ k9 → k9 ≠ y.toInt → TNf cI g f k9 v9 → TNf cI g f_43 k9 v9 from (fun k9 v9 h0 hn ⟨ct, q1, q2⟩ => by
            rw [fg_1] at q1
            cases q1
            exact ⟨_, fb_44, q2⟩), show FX S (fun _ => False) [13, 14, 34] f f_43 from (by first | assumption | omega | (subst hj1; omega)), show r_43.toInt = 0 ∨ r_43.toInt = 1 from (by first | assumption | omega | (subst hj1; omega))⟩) hP hD hQ (Nat.le_of_ble_eq_true rfl) (Nat.le_of_ble_eq_true rfl) dX4_openGroup_64
    · have kb_46 : ks i = 10 := cK_p (hKO i).1 (Or.inl ⟨by decide, by decide⟩) kk_0 c_28 (by decide)
      refine lv_aload_n hx hb dX4_openGroup_19 rfl (lv_at hl 0 rfl) ?_
      refine t_get (D := D) (L := L) (f := f_25) (ci := 4) (v := .ref (g 34)) (C := RX4) (T := TX4) (N := 11) hx hb hts (by decide +kernel) hown hK.1 hP (gm_13 hG) fb_27 rfl 4 (by decide) (hts (.fieldLink RX4 17 "JugglingHall$Reader" "turns" "[I") (by decide +kernel)) (fun _ h9 => h9) rfl dX4_openGroup_20 ?_
      refine lv_iload_n hx hb dX4_openGroup_23 rfl (lv_at hl 2 rfl) ?_
      refine lv_aload_n hx hb dX4_openGroup_24 rfl (lv_at hl 0 rfl) ?_
      obtain ⟨cnt_47, nx_47, kd_47, vl_47, st_47, ls_47, fg_47, iv0_47, iv1_47, iv2_47⟩ := op_14 hI (gm_14 hG) (gs_14 hG)
      obtain ⟨kk_48, kv_48⟩ := TKm_k hCm_25 fg_47
      refine t_get (D := D) (L := L) (f := f_25) (ci := 4) (v := .ref (g 14)) (C := RX4) (T := TX4) (N := 11) hx hb hts (by decide +kernel) hown hK.1 hP (gm_13 hG) fb_27 rfl 1 (by decide) (hts (.fieldLink RX4 41 "JugglingHall$Reader" "tokens" "LJugglingHall$Tokens;") (by decide +kernel)) (fun _ h9 => h9) rfl dX4_openGroup_25 ?_
      refine t_getN (D := D) (L := L) (f := f_25) (ci := 8) (v := .int vl_47) (C := RX8) (T := TX8) (N := 10) (host := "JugglingHall") hx hb hts (by decide +kernel) hown hK.1 hP (gm_14 hG) fg_47 rfl 7 (by decide) (hK.nw (.fieldLinkNest RX4 113 "JugglingHall$Tokens" "value" "I" "JugglingHall") (by decide +kernel) rfl) (fun _ h9 => h9) rfl dX4_openGroup_28 ?_
      refine t_iast (L := L) (f := f_25) (h := c_1) (u := y.toInt) hx hb hK.1 hP hD hS (gm_34 hG) 0 fb_26 rfl dX4_openGroup_31 (rfl) (by subst hj1; omega) (fun g_49 f_49 H locs eg_49 e9_49 o_49 hP hD hS => ?_)
      have fa_49 : f_49 (g 34) = .inl (cI, 6, .inl g_49) := e9_49
      have hI := IN_set (e := .inl (cI, 6, .inl g_49)) hI (gs_34 hG) (mk_34) fa_49 o_49
      have hF := FR_set hF (gs_34 hG) (show (34 : Nat) ∈ ([13, 14, 34] : List Nat) by decide) o_49
      have hFX := FX_setT hFX (gs_34 hG) (show (34 : Nat) ∈ ([13, 14, 34] : List Nat) by decide) o_49
      have fb_50 : f_49 (g 13) = .inr (4, [.int (nI jn), .ref (g 14), .ref (g 12), .ref (g 22), .ref (g 34), .ref (g 23), .ref (g 24), .ref (g 25), .ref (g 26), .int fa_23, .int pl_23]) := f_at o_49 (S_ne (gs_13 hG) (gs_34 hG) (show (13 : Nat) ≠ 34 by decide)) fb_27
      have fb_51 : f_49 (g 14) = .inr (8, [.ref (g 11), .ref (g 31), .ref (g 32), .ref (g 33), .int cnt_47, .int nx_47, .int kd_47, .int vl_47, .int st_47, .int ls_47]) := f_at o_49 (S_ne (gs_14 hG) (gs_34 hG) (show (14 : Nat) ≠ 34 by decide)) fg_47
      have hCs : TKm cI g ks vs f_49 (i + 1) := TKm_o hCm_25 hG (gs_34 hG) (by decide) o_49
      refine lv_aload_n hx hb dX4_openGroup_32 rfl (lv_at hl 0 rfl) ?_
      refine lv_iconst (v := 2) hx hb dX4_openGroup_33 (by decide) ?_
      have hz_52 : (2 : Int32).toInt = 2 := by decide
      refine call_p (va_runV (As := [.int 2]) (rest := []) ⟨hx, hb, hml, hown, hts⟩ (t_X4_expectm l D cI cR cM _ (ks := ks) (vs := vs) (i := i + 1) (K9 := 1)  hj hG hI  (by first | assumption | omega | (subst hj1; omega)) (hCs) (by first | assumption | omega | (subst hj1; omega)) (by decide) (Or.inl ⟨by decide, by decide⟩)) (cwV 1 hts gX4_openGroup_X4_expect rfl rfl rfl (by decide +kernel) ⟨Nat.le_of_ble_eq_true rfl, Nat.le_of_ble_eq_true rfl⟩) (pre_T hK hP hD (gm_13 hG) fb_50 rfl) rfl rfl hl.1 rfl (lv_room (Nat.le_of_ble_eq_true rfl)) dX4_openGroup_34 ⟨Nat.le_of_ble_eq_true rfl, Nat.le_of_ble_eq_true rfl⟩) hD hS hA (fun u_53 H locs hw hP hD hS => ?_)
      obtain ⟨r_53, f_53⟩ := u_53
      obtain ⟨hI, hF_53, hp_53, hfx_53, h01_53⟩ : IN jn cI cR cM g L S f_53 ∧ FR S [13, 14] f_49 f_53 ∧ ((r_53.toInt = 1 ∧ ks (i + 1) = 1 ∧ TKm cI g ks vs f_53 ((i + 1) + 1)) ∨ (r_53.toInt = 0 ∧ ks (i + 1) ≠ 1)) ∧ (FX S (fun _ => False) [13, 14] f_49 f_53) ∧ (r_53.toInt = 0 ∨ r_53.toInt = 1) := hw
      have hP : va_P D vwCl (va_pl L f_53) H := hP
      have hD : va_D A (va_pl L f_53) := hD
      have hF := FR_tr hF hF_53 (by decide)
      have hFX := FX_tr hFX hfx_53 (fun _ h9 => h9.elim) (by decide)
      have fb_54 : f_53 (g 34) = .inl (cI, 6, .inl g_49) := FR_at hF_53 (gs_34 hG) (show (34 : Nat) ∉ ([13, 14] : List Nat) by decide) fa_49
      refine a_if_ne (u := r_53.toInt) (tgt := 42) hx hb dX4_openGroup_37 (by decide) (rfl) (fun c_55 => ?_) (fun c_55 => ?_)
      · obtain ⟨hq1_53, hq2_53, hq3_53⟩ : _ ∧ ks (i + 1) = 1 ∧ TKm cI g ks vs f_53 (i + 2) := hp_53.resolve_right (fun q9 => by have := q9.1; omega)
        refine lv_aload_n hx hb dX4_openGroup_42 rfl (lv_at hl 0 rfl) ?_
        obtain ⟨cnt_56, nx_56, kd_56, vl_56, st_56, ls_56, fg_56, iv0_56, iv1_56, iv2_56⟩ := op_14 hI (gm_14 hG) (gs_14 hG)
        obtain ⟨kk_57, kv_57⟩ := TKm_k hq3_53 fg_56
        obtain ⟨fa_58, pl_58, fg_58⟩ := op_13 hI (gm_13 hG) (gs_13 hG)
        refine t_get (D := D) (L := L) (f := f_53) (ci := 4) (v := .ref (g 14)) (C := RX4) (T := TX4) (N := 11) hx hb hts (by decide +kernel) hown hK.1 hP (gm_13 hG) fg_58 rfl 1 (by decide) (hts (.fieldLink RX4 41 "JugglingHall$Reader" "tokens" "LJugglingHall$Tokens;") (by decide +kernel)) (fun _ h9 => h9) rfl dX4_openGroup_43 ?_
        refine t_getN (D := D) (L := L) (f := f_53) (ci := 8) (v := .int kd_56) (C := RX8) (T := TX8) (N := 10) (host := "JugglingHall") hx hb hts (by decide +kernel) hown hK.1 hP (gm_14 hG) fg_56 rfl 6 (by decide) (hK.nw (.fieldLinkNest RX4 70 "JugglingHall$Tokens" "kind" "I" "JugglingHall") (by decide +kernel) rfl) (fun _ h9 => h9) rfl dX4_openGroup_46 ?_
        refine lv_bipush (v := 40) hx hb dX4_openGroup_49 (by decide) ?_
        refine a_icmp_ne (u := kd_56.toInt) (v := 40) (tgt := 65) hx hb dX4_openGroup_51 (by decide) (rfl) (by decide) (fun c_59 => ?_) (fun c_59 => ?_)
        · have kb_60 : ks (i + 2) ≠ 40 := cK_n kk_57 c_59 (by decide)
          refine lv_aload_n hx hb dX4_openGroup_65 rfl (lv_at hl 0 rfl) ?_
          refine lv_bipush (v := 40) hx hb dX4_openGroup_66 (by decide) ?_
          have hz_61 : (40 : Int32).toInt = 40 := by decide
          refine call_p (va_runV (As := [.int 40]) (rest := []) ⟨hx, hb, hml, hown, hts⟩ (t_X4_expectm l D cI cR cM _ (ks := ks) (vs := vs) (i := i + 2) (K9 := 40)  hj hG hI  (by first | assumption | omega | (subst hj1; omega)) (hq3_53) (by first | assumption | omega | (subst hj1; omega)) (by decide) (Or.inr ⟨by decide, by decide⟩)) (cwV 1 hts gX4_openGroup_X4_expect rfl rfl rfl (by decide +kernel) ⟨Nat.le_of_ble_eq_true rfl, Nat.le_of_ble_eq_true rfl⟩) (pre_T hK hP hD (gm_13 hG) fg_58 rfl) rfl rfl hl.1 rfl (lv_room (Nat.le_of_ble_eq_true rfl)) dX4_openGroup_68 ⟨Nat.le_of_ble_eq_true rfl, Nat.le_of_ble_eq_true rfl⟩) hD hS hA (fun u_62 H locs hw hP hD hS => ?_)
          obtain ⟨r_62, f_62⟩ := u_62
          obtain ⟨hI, hF_62, hp_62, hfx_62, h01_62⟩ : IN jn cI cR cM g L S f_62 ∧ FR S [13, 14] f_53 f_62 ∧ ((r_62.toInt = 1 ∧ ks (i + 2) = 40 ∧ TKm cI g ks vs f_62 ((i + 2) + 1)) ∨ (r_62.toInt = 0 ∧ ks (i + 2) ≠ 40)) ∧ (FX S (fun _ => False) [13, 14] f_53 f_62) ∧ (r_62.toInt = 0 ∨ r_62.toInt = 1) := hw
          have hP : va_P D vwCl (va_pl L f_62) H := hP
          have hD : va_D A (va_pl L f_62) := hD
          have hF := FR_tr hF hF_62 (by decide)
          have hFX := FX_tr hFX hfx_62 (fun _ h9 => h9.elim) (by decide)
          have fb_63 : f_62 (g 34) = .inl (cI, 6, .inl g_49) := FR_at hF_62 (gs_34 hG) (show (34 : Nat) ∉ ([13, 14] : List Nat) by decide) fb_54
          exact g_zret (r_62, f_62) hx hb hr hlocks hS (b01 (by subst hj1; omega)) rfl (⟨hI, hF, show (r_62.toInt = 1 ∧ y.toInt < 5 ∧ ((ks i = 40 ∧ TKm cI g ks vs f_62 (i + 1)) ∨ ((7 ≤ ks i ∧ ks i ≤ 9) ∧ ks (i + 1) = 40 ∧ TKm cI g ks vs f_62 (i + 2)) ∨ (ks i = 10 ∧ ks (i + 1) = 1 ∧ ks (i + 2) = 40 ∧ TKm cI g ks vs f_62 (i + 3) ∧ TNf cI g f_62 y.toInt (vs (i + 1))))) ∨ (r_62.toInt = 0 ∧ ¬ (y.toInt < 5 ∧ (ks i = 40 ∨ ((7 ≤ ks i ∧ ks i ≤ 9) ∧ ks (i + 1) = 40) ∨ (ks i = 10 ∧ ks (i + 1) = 1 ∧ ks (i + 2) = 40)))) from (by
            rcases hp_62 with ⟨h5, h6, h7⟩ | ⟨h5, h6⟩
            · have h6 : ks (i + 2) = 40 := h6
              have h7 : TKm cI g ks vs f_62 (i + 3) := h7
              exact Or.inl ⟨h5, by omega, Or.inr (Or.inr ⟨by omega, by omega, h6, h7, ⟨_, fb_63, by rw [eg_49, pk_us]; exact kv_48 (Or.inl (by subst hj1; omega))⟩⟩)⟩
            · have h6 : ks (i + 2) ≠ 40 := h6
              exact Or.inr ⟨h5, fun q9 => by obtain ⟨q1, q2⟩ := q9; omega⟩), show ∀ k9 v9 : Int, 0 ≤ k9 → k9 ≠ y.toInt → TNf cI g f k9 v9 → TNf cI g f_62 k9 v9 from (fun k9 v9 h0 hn ⟨ct, q1, q2⟩ => by
            rw [fg_1] at q1
            cases q1
            exact ⟨_, fb_63, by rw [eg_49, un_i h0 (by subst hj1; omega) hn]; exact q2⟩), show FX S (fun _ => False) [13, 14, 34] f f_62 from (by first | assumption | omega | (subst hj1; omega)), show r_62.toInt = 0 ∨ r_62.toInt = 1 from (by first | assumption | omega | (subst hj1; omega))⟩) hP hD hQ (Nat.le_of_ble_eq_true rfl) (Nat.le_of_ble_eq_true rfl) dX4_openGroup_71
        · have kb_64 : ks (i + 2) = 40 := cK_p (hKO (i + 2)).1 (Or.inr ⟨by decide, by decide⟩) kk_57 c_59 (by decide)
          refine lv_iload_n hx hb dX4_openGroup_54 rfl (lv_at hl 2 rfl) ?_
          refine lv_iconst (v := 5) hx hb dX4_openGroup_55 (by decide) ?_
          refine a_icmp_lt (u := y.toInt) (v := 5) (tgt := 65) hx hb dX4_openGroup_56 (by decide) (rfl) (by decide) (fun c_65 => ?_) (fun c_65 => ?_)
          · refine lv_aload_n hx hb dX4_openGroup_65 rfl (lv_at hl 0 rfl) ?_
            refine lv_bipush (v := 40) hx hb dX4_openGroup_66 (by decide) ?_
            have hz_66 : (40 : Int32).toInt = 40 := by decide
            refine call_p (va_runV (As := [.int 40]) (rest := []) ⟨hx, hb, hml, hown, hts⟩ (t_X4_expectm l D cI cR cM _ (ks := ks) (vs := vs) (i := i + 2) (K9 := 40)  hj hG hI  (by first | assumption | omega | (subst hj1; omega)) (hq3_53) (by first | assumption | omega | (subst hj1; omega)) (by decide) (Or.inr ⟨by decide, by decide⟩)) (cwV 1 hts gX4_openGroup_X4_expect rfl rfl rfl (by decide +kernel) ⟨Nat.le_of_ble_eq_true rfl, Nat.le_of_ble_eq_true rfl⟩) (pre_T hK hP hD (gm_13 hG) fg_58 rfl) rfl rfl hl.1 rfl (lv_room (Nat.le_of_ble_eq_true rfl)) dX4_openGroup_68 ⟨Nat.le_of_ble_eq_true rfl, Nat.le_of_ble_eq_true rfl⟩) hD hS hA (fun u_67 H locs hw hP hD hS => ?_)
            obtain ⟨r_67, f_67⟩ := u_67
            obtain ⟨hI, hF_67, hp_67, hfx_67, h01_67⟩ : IN jn cI cR cM g L S f_67 ∧ FR S [13, 14] f_53 f_67 ∧ ((r_67.toInt = 1 ∧ ks (i + 2) = 40 ∧ TKm cI g ks vs f_67 ((i + 2) + 1)) ∨ (r_67.toInt = 0 ∧ ks (i + 2) ≠ 40)) ∧ (FX S (fun _ => False) [13, 14] f_53 f_67) ∧ (r_67.toInt = 0 ∨ r_67.toInt = 1) := hw
            have hP : va_P D vwCl (va_pl L f_67) H := hP
            have hD : va_D A (va_pl L f_67) := hD
            have hF := FR_tr hF hF_67 (by decide)
            have hFX := FX_tr hFX hfx_67 (fun _ h9 => h9.elim) (by decide)
            have fb_68 : f_67 (g 34) = .inl (cI, 6, .inl g_49) := FR_at hF_67 (gs_34 hG) (show (34 : Nat) ∉ ([13, 14] : List Nat) by decide) fb_54
            exact g_zret (r_67, f_67) hx hb hr hlocks hS (b01 (by subst hj1; omega)) rfl (⟨hI, hF, show (r_67.toInt = 1 ∧ y.toInt < 5 ∧ ((ks i = 40 ∧ TKm cI g ks vs f_67 (i + 1)) ∨ ((7 ≤ ks i ∧ ks i ≤ 9) ∧ ks (i + 1) = 40 ∧ TKm cI g ks vs f_67 (i + 2)) ∨ (ks i = 10 ∧ ks (i + 1) = 1 ∧ ks (i + 2) = 40 ∧ TKm cI g ks vs f_67 (i + 3) ∧ TNf cI g f_67 y.toInt (vs (i + 1))))) ∨ (r_67.toInt = 0 ∧ ¬ (y.toInt < 5 ∧ (ks i = 40 ∨ ((7 ≤ ks i ∧ ks i ≤ 9) ∧ ks (i + 1) = 40) ∨ (ks i = 10 ∧ ks (i + 1) = 1 ∧ ks (i + 2) = 40)))) from (by
              rcases hp_67 with ⟨h5, h6, h7⟩ | ⟨h5, h6⟩
              · have h6 : ks (i + 2) = 40 := h6
                have h7 : TKm cI g ks vs f_67 (i + 3) := h7
                exact Or.inl ⟨h5, by omega, Or.inr (Or.inr ⟨by omega, by omega, h6, h7, ⟨_, fb_68, by rw [eg_49, pk_us]; exact kv_48 (Or.inl (by subst hj1; omega))⟩⟩)⟩
              · have h6 : ks (i + 2) ≠ 40 := h6
                exact Or.inr ⟨h5, fun q9 => by obtain ⟨q1, q2⟩ := q9; omega⟩), show ∀ k9 v9 : Int, 0 ≤ k9 → k9 ≠ y.toInt → TNf cI g f k9 v9 → TNf cI g f_67 k9 v9 from (fun k9 v9 h0 hn ⟨ct, q1, q2⟩ => by
              rw [fg_1] at q1
              cases q1
              exact ⟨_, fb_68, by rw [eg_49, un_i h0 (by subst hj1; omega) hn]; exact q2⟩), show FX S (fun _ => False) [13, 14, 34] f f_67 from (by first | assumption | omega | (subst hj1; omega)), show r_67.toInt = 0 ∨ r_67.toInt = 1 from (by first | assumption | omega | (subst hj1; omega))⟩) hP hD hQ (Nat.le_of_ble_eq_true rfl) (Nat.le_of_ble_eq_true rfl) dX4_openGroup_71
          · refine lv_aload_n hx hb dX4_openGroup_59 rfl (lv_at hl 0 rfl) ?_
            refine lv_iconst (v := 3) hx hb dX4_openGroup_60 (by decide) ?_
            have hz_69 : (3 : Int32).toInt = 3 := by decide
            refine call_p (va_runV (As := [.int 3]) (rest := []) ⟨hx, hb, hml, hown, hts⟩ (t_X4_fail l D cI cR cM _   hj hG hI  ) (cwV 1 hts gX4_openGroup_X4_fail rfl rfl rfl (by decide +kernel) ⟨Nat.le_of_ble_eq_true rfl, Nat.le_of_ble_eq_true rfl⟩) (pre_T hK hP hD (gm_13 hG) fg_58 rfl) rfl rfl hl.1 rfl (lv_room (Nat.le_of_ble_eq_true rfl)) dX4_openGroup_61 ⟨Nat.le_of_ble_eq_true rfl, Nat.le_of_ble_eq_true rfl⟩) hD hS hA (fun u_70 H locs hw hP hD hS => ?_)
            obtain ⟨r_70, f_70⟩ := u_70
            obtain ⟨hI, hF_70, h0_70, h01_70⟩ : IN jn cI cR cM g L S f_70 ∧ FR S [13] f_53 f_70 ∧ (r_70.toInt = 0) ∧ (r_70.toInt = 0 ∨ r_70.toInt = 1) := hw
            have hP : va_P D vwCl (va_pl L f_70) H := hP
            have hD : va_D A (va_pl L f_70) := hD
            have hF := FR_tr hF hF_70 (by decide)
            have hFX := FX_trR hFX hF_70 (by decide) (by decide)
            have fb_71 : f_70 (g 34) = .inl (cI, 6, .inl g_49) := FR_at hF_70 (gs_34 hG) (show (34 : Nat) ∉ ([13] : List Nat) by decide) fb_54
            have fb_72 : f_70 (g 14) = .inr (8, [.ref (g 11), .ref (g 31), .ref (g 32), .ref (g 33), .int cnt_56, .int nx_56, .int kd_56, .int vl_56, .int st_56, .int ls_56]) := FR_at hF_70 (gs_14 hG) (show (14 : Nat) ∉ ([13] : List Nat) by decide) fg_56
            exact g_zret (r_70, f_70) hx hb hr hlocks hS (b01 (by subst hj1; omega)) rfl (⟨hI, hF, show (r_70.toInt = 1 ∧ y.toInt < 5 ∧ ((ks i = 40 ∧ TKm cI g ks vs f_70 (i + 1)) ∨ ((7 ≤ ks i ∧ ks i ≤ 9) ∧ ks (i + 1) = 40 ∧ TKm cI g ks vs f_70 (i + 2)) ∨ (ks i = 10 ∧ ks (i + 1) = 1 ∧ ks (i + 2) = 40 ∧ TKm cI g ks vs f_70 (i + 3) ∧ TNf cI g f_70 y.toInt (vs (i + 1))))) ∨ (r_70.toInt = 0 ∧ ¬ (y.toInt < 5 ∧ (ks i = 40 ∨ ((7 ≤ ks i ∧ ks i ≤ 9) ∧ ks (i + 1) = 40) ∨ (ks i = 10 ∧ ks (i + 1) = 1 ∧ ks (i + 2) = 40)))) from (Or.inr ⟨h0_70, fun q9 => by have := q9.1; omega⟩), show ∀ k9 v9 : Int, 0 ≤ k9 → k9 ≠ y.toInt → TNf cI g f k9 v9 → TNf cI g f_70 k9 v9 from (fun k9 v9 h0 hn ⟨ct, q1, q2⟩ => by
              rw [fg_1] at q1
              cases q1
              exact ⟨_, fb_71, by rw [eg_49, un_i h0 (by subst hj1; omega) hn]; exact q2⟩), show FX S (fun _ => False) [13, 14, 34] f f_70 from (by first | assumption | omega | (subst hj1; omega)), show r_70.toInt = 0 ∨ r_70.toInt = 1 from (by first | assumption | omega | (subst hj1; omega))⟩) hP hD hQ (Nat.le_of_ble_eq_true rfl) (Nat.le_of_ble_eq_true rfl) dX4_openGroup_64
      · refine lv_iconst (v := 0) hx hb dX4_openGroup_40 (by decide) ?_
        have hz_73 : (0 : Int32).toInt = 0 := by decide
        exact g_zret ((0 : Int32), f_53) hx hb hr hlocks hS (by first | exact Or.inl rfl | exact Or.inr rfl) rfl (⟨hI, hF, show ((0 : Int32).toInt = 1 ∧ y.toInt < 5 ∧ ((ks i = 40 ∧ TKm cI g ks vs f_53 (i + 1)) ∨ ((7 ≤ ks i ∧ ks i ≤ 9) ∧ ks (i + 1) = 40 ∧ TKm cI g ks vs f_53 (i + 2)) ∨ (ks i = 10 ∧ ks (i + 1) = 1 ∧ ks (i + 2) = 40 ∧ TKm cI g ks vs f_53 (i + 3) ∧ TNf cI g f_53 y.toInt (vs (i + 1))))) ∨ ((0 : Int32).toInt = 0 ∧ ¬ (y.toInt < 5 ∧ (ks i = 40 ∨ ((7 ≤ ks i ∧ ks i ≤ 9) ∧ ks (i + 1) = 40) ∨ (ks i = 10 ∧ ks (i + 1) = 1 ∧ ks (i + 2) = 40)))) from (Or.inr ⟨rfl, fun q9 => by have h8 := (hp_53.resolve_left (fun q7 => by have := q7.1; omega)).2; obtain ⟨q1, q2⟩ := q9; omega⟩), show ∀ k9 v9 : Int, 0 ≤ k9 → k9 ≠ y.toInt → TNf cI g f k9 v9 → TNf cI g f_53 k9 v9 from (fun k9 v9 h0 hn ⟨ct, q1, q2⟩ => by
          rw [fg_1] at q1
          cases q1
          exact ⟨_, fb_54, by rw [eg_49, un_i h0 (by subst hj1; omega) hn]; exact q2⟩), show FX S (fun _ => False) [13, 14, 34] f f_53 from (by first | assumption | omega | (subst hj1; omega)), show (0 : Int32).toInt = 0 ∨ (0 : Int32).toInt = 1 from (by first | assumption | omega | (subst hj1; omega))⟩) hP hD hQ (Nat.le_of_ble_eq_true rfl) (Nat.le_of_ble_eq_true rfl) dX4_openGroup_41
