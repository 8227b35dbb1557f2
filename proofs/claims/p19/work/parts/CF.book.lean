theorem ref_in {cR : ClassId} {n a : Nat} {f : Nat → va_E} {c d : Nat → Option Nat} (h : f a = refs cR n c) (h1 : f a = .inl (cR, n, .inr (.inr (.inr (.inr d))))) : d = c := by
  unfold refs at h
  rw [h1] at h
  cases h
  rfl
/-- a place of the book holds a row, or none -/
def Pg (cI : ClassId) (jn : Nat) (g lv gr : Nat → Nat) (S : Sg) (f : Nat → va_E) (cb : Nat → Option Nat) (i : Int) (e : Int × (Int → Int)) : Prop := (cb i.toNat = none ∧ e.1 = 0) ∨ ∃ r, cb i.toNat = some r ∧ 0 < e.1 ∧ RWf cI jn S f r e.1 e.2 ∧ ¬ NR g lv gr r
/-- the class's rows by times -/
def BkR (cI cR : ClassId) (jn : Nat) (g lv gr : Nat → Nat) (S : Sg) (f : Nat → va_E) (T lk : Int) (Ev : Int → Env1) : Prop := ∃ (cb : Nat → Option Nat) (tm lk9 : Int32), f (g 20) = refs cR 488 cb ∧ f (g 12) = .inr (0, [.ref (g 20), .ref (g 21), .int tm, .int lk9]) ∧ tm.toInt = T ∧ lk9.toInt = lk ∧ ∀ t l : Int, 0 ≤ t → t ≤ T → 0 ≤ l → l < 8 → Pg cI jn g lv gr S f cb (8 * t + l) (Ev t l)
theorem Pg_fx {cI : ClassId} {jn : Nat} {g lv gr : Nat → Nat} {S : Sg} {f f1 : Nat → va_E} {cb : Nat → Option Nat} {i : Int} {e : Int × (Int → Int)} {B : Nat → Prop} {T2 : List Nat} (h : Pg cI jn g lv gr S f cb i e) (hX : FX S B T2 f f1) (h2 : 0 ∉ T2 ∧ 1 ∉ T2) (hn : ∀ r, ¬ NR g lv gr r → ¬ B r) : Pg cI jn g lv gr S f1 cb i e := by
  rcases h with q4 | ⟨r, r1, r2, r3, r4⟩
  · exact Or.inl q4
  · exact Or.inr ⟨r, r1, r2, RWf_fx r3 hX (hn r r4) h2, r4⟩
theorem Pg_cb {cI : ClassId} {jn : Nat} {g lv gr : Nat → Nat} {S : Sg} {f : Nat → va_E} {cb cb1 : Nat → Option Nat} {i j : Int} {e : Int × (Int → Int)} (h : Pg cI jn g lv gr S f cb i e) (q : cb1 j.toNat = cb i.toNat) : Pg cI jn g lv gr S f cb1 j e := by
  unfold Pg
  rw [q]; exact h
theorem Pg_ext {cI cR cM : ClassId} {jn : Nat} {g lv gr : Nat → Nat} {L L1 : List Nat} {S S1 : Sg} {f f1 : Nat → va_E} {cb : Nat → Option Nat} {i : Int} {e : Int × (Int → Int)} {T : List Nat} (h : Pg cI jn g lv gr S f cb i e) (hI : IN jn cI cR cM g L S f) (hr : ∀ r, cb i.toNat = some r → ∃ p n, isRow L S r p n) (hX : EXT L S L1 S1) (hF : FRX L S T f f1) (ht : 0 ∉ T ∧ 1 ∉ T) : Pg cI jn g lv gr S1 f1 cb i e := by
  rcases h with q4 | ⟨r, r1, r2, r3, r4⟩
  · exact Or.inl q4
  · obtain ⟨p, n, hr9⟩ := hr r r1
    exact Or.inr ⟨r, r1, r2, RWf_ext r3 hI hr9 hX hF ht, r4⟩
theorem f12_at {g : Nat → Nat} {f : Nat → va_E} {tm lk a b : Int32} (h : f (g 12) = .inr (0, [.ref (g 20), .ref (g 21), .int tm, .int lk])) (h1 : f (g 12) = .inr (0, [.ref (g 20), .ref (g 21), .int a, .int b])) : a.toInt = tm.toInt ∧ b.toInt = lk.toInt := by
  rw [h] at h1
  cases h1
  exact ⟨rfl, rfl⟩
set_option maxRecDepth 100000 in
set_option maxHeartbeats 4000000 in
theorem t_X0_isFullm (l : Launch) (D : va_G) (cI cR cM : ClassId) (sz : Nat) {jn : Nat} {g : Nat → Nat} {L : List Nat} {S : Sg} {f : Nat → va_E}  (hj : 1 ≤ jn ∧ jn ≤ 3) (hG : SG g L S) (hI : IN jn cI cR cM g L S f)  : Met l yX0_isFull wsX0_isFull ({ frames := 0, cells := 0, slots := 0, locals := 0 }) (P0 D cI cR cM [.ref (g 12)] sz (va_pl L f)) (QP (fun r => (∀ tm lk, f (g 12) = .inr (0, [.ref (g 20), .ref (g 21), .int tm, .int lk]) → (r.toInt = 0 ∧ tm.toInt < 60) ∨ (r.toInt = 1 ∧ 60 ≤ tm.toInt)) ∧ (r.toInt = 0 ∨ r.toInt = 1)) sz) 0 0 (va_A [] sz) := by
  refine go (cc := cX0_isFull) (maxL := 1) (ret := (some .boolean)) (by decide +kernel) rfl (Nat.le_of_ble_eq_true rfl) ?_
  intro p e s m below meth c ls args Q hQ hsz hx hb hr hml hts hown hlocks hnm hP hK hD hl
  subst hsz
  have hS : va_S (va_A [] s.heap.size) s.heap s.heap [] := va_S.rf
  have hA : ∀ q, s.heap.size ≤ q → va_A [] s.heap.size q := fun q h => Or.inr h
  have hl : lv_has ls 1 [(0, .ref (g 12))] := hl
  refine lv_aload_n hx hb dX0_isFull_0 rfl (lv_at hl 0 rfl) ?_
  obtain ⟨tm_1, lk_1, fg_1, iv0_1, iv1_1, iv2_1⟩ := op_12 hI (gm_12 hG) (gs_12 hG)
  refine t_get (D := D) (L := L) (f := f) (ci := 0) (v := .int tm_1) (C := RX0) (T := TX0) (N := 4) hx hb hts (by decide +kernel) hown hK.1 hP (gm_12 hG) fg_1 rfl 2 (by decide) (hts (.fieldLink RX0 23 "JugglingHall$Book" "time" "I") (by decide +kernel)) (fun _ h9 => h9) rfl dX0_isFull_1 ?_
  refine lv_bipush (v := 60) hx hb dX0_isFull_4 (by decide) ?_
  refine a_icmp_lt (u := tm_1.toInt) (v := 60) (tgt := 13) hx hb dX0_isFull_6 (by decide) (rfl) (by decide) (fun c_2 => ?_) (fun c_2 => ?_)
  · refine lv_iconst (v := 0) hx hb dX0_isFull_13 (by decide) ?_
    have hz_3 : (0 : Int32).toInt = 0 := by decide
    exact rp_zret hx hb hr hlocks hS (by first | exact Or.inl rfl | exact Or.inr rfl) (⟨show ∀ tm lk, f (g 12) = .inr (0, [.ref (g 20), .ref (g 21), .int tm, .int lk]) → ((0 : Int32).toInt = 0 ∧ tm.toInt < 60) ∨ ((0 : Int32).toInt = 1 ∧ 60 ≤ tm.toInt) from (fun tm9 lk9 h9 => by rw [fg_1] at h9; cases h9; first | exact Or.inl ⟨by omega, by omega⟩ | exact Or.inr ⟨by omega, by omega⟩), show (0 : Int32).toInt = 0 ∨ (0 : Int32).toInt = 1 from (by first | assumption | omega)⟩) hQ dX0_isFull_14
  · refine lv_iconst (v := 1) hx hb dX0_isFull_9 (by decide) ?_
    refine lv_goto (tgt := 14) hx hb dX0_isFull_10 (by decide) ?_
    have hz_4 : (1 : Int32).toInt = 1 := by decide
    exact rp_zret hx hb hr hlocks hS (by first | exact Or.inl rfl | exact Or.inr rfl) (⟨show ∀ tm lk, f (g 12) = .inr (0, [.ref (g 20), .ref (g 21), .int tm, .int lk]) → ((1 : Int32).toInt = 0 ∧ tm.toInt < 60) ∨ ((1 : Int32).toInt = 1 ∧ 60 ≤ tm.toInt) from (fun tm9 lk9 h9 => by rw [fg_1] at h9; cases h9; first | exact Or.inl ⟨by omega, by omega⟩ | exact Or.inr ⟨by omega, by omega⟩), show (1 : Int32).toInt = 0 ∨ (1 : Int32).toInt = 1 from (by first | assumption | omega)⟩) hQ dX0_isFull_14
set_option maxRecDepth 100000 in
set_option maxHeartbeats 4000000 in
theorem t_X0_turnPagem (l : Launch) (D : va_G) (cI cR cM : ClassId) (sz : Nat) {jn : Nat} {g : Nat → Nat} {L : List Nat} {S : Sg} {f : Nat → va_E} {cb : Nat → Option Nat} {tm lk : Int32} (hj : 1 ≤ jn ∧ jn ≤ 3) (hG : SG g L S) (hI : IN jn cI cR cM g L S f) (hj1 : jn = 1) (hb20 : f (g 20) = .inl (cR, 488, .inr (.inr (.inr (.inr cb))))) (hb12 : f (g 12) = .inr (0, [.ref (g 20), .ref (g 21), .int tm, .int lk])) (htm : tm.toInt < 60) : Met l yX0_turnPage wsX0_turnPage ({ frames := 1, cells := 0, slots := 0, locals := 20 }) (P0 D cI cR cM [.ref (g 12)] sz (va_pl L f)) (QG (S := Nat → va_E) (fun u => none) (fun u => va_pl L u) (fun u => IN jn cI cR cM g L S u ∧ FR S [12, 20, 21] f u ∧ (∃ (c1 : Nat → Option Nat) (tm1 : Int32), u (g 20) = refs cR 488 c1 ∧ u (g 12) = .inr (0, [.ref (g 20), .ref (g 21), .int tm1, .int tm1]) ∧ tm1.toInt = tm.toInt + 1 ∧ (∀ i9 : Int, 0 ≤ i9 → i9 < 8 * (tm.toInt + 1) → c1 i9.toNat = cb i9.toNat) ∧ ∀ l9 : Int, 0 ≤ l9 → l9 < 8 → c1 (8 * (tm.toInt + 1) + l9).toNat = cb (8 * tm.toInt + l9).toNat) ∧ (FX S (fun _ => False) [12, 20, 21] f u)) D (va_A (va_pl L f) sz)) 0 0 (va_A (va_pl L f) sz) := by
  refine go (cc := cX0_turnPage) (maxL := 2) (ret := none) (by decide +kernel) rfl (Nat.le_of_ble_eq_true rfl) ?_
  intro p e s m below meth c ls args Q hQ hsz hx hb hr hml hts hown hlocks hnm hP hK hD hl
  subst hsz
  have hD := hD.self (sz := s.heap.size)
  generalize hAe : va_A (va_pl L f) s.heap.size = A at hD hQ
  have hA : ∀ q, s.heap.size ≤ q → A q := fun q h => by rw [← hAe]; exact Or.inr h
  have hS : va_S A s.heap s.heap [] := va_S.rf
  have hFX : FX S (fun _ => False) [12, 20, 21] f f := FX_rf
  have hF : FR S [12, 20, 21] f f := FR_rf
  have hl : lv_has ls 2 [(0, .ref (g 12))] := hl
  obtain ⟨iw0, iw1, iw2⟩ := iv_12 hI (gm_12 hG) (gs_12 hG) hb12
  refine lv_aload_n hx hb dX0_turnPage_0 rfl (lv_at hl 0 rfl) ?_
  obtain ⟨tm_1, lk_1, fg_1, iv0_1, iv1_1, iv2_1⟩ := op_12 hI (gm_12 hG) (gs_12 hG)
  refine roP (va_runV (As := []) (rest := []) ⟨hx, hb, hml, hown, hts⟩ (t_X0_isFullm l D cI cR cM _   hj hG hI  ) (cwV 0 hts gX0_turnPage_X0_isFull rfl rfl rfl (by decide +kernel) ⟨Nat.le_of_ble_eq_true rfl, Nat.le_of_ble_eq_true rfl⟩) (pre_T hK hP hD (gm_12 hG) fg_1 rfl) rfl rfl hl.1 rfl (lv_room (Nat.le_of_ble_eq_true rfl)) dX0_turnPage_1 ⟨Nat.le_of_ble_eq_true rfl, Nat.le_of_ble_eq_true rfl⟩) hS hA hP (fun r_2 H locs hw hP hS => ?_)
  obtain ⟨hb_2, h01_2⟩ : (∀ tm lk, f (g 12) = .inr (0, [.ref (g 20), .ref (g 21), .int tm, .int lk]) → (r_2.toInt = 0 ∧ tm.toInt < 60) ∨ (r_2.toInt = 1 ∧ 60 ≤ tm.toInt)) ∧ (r_2.toInt = 0 ∨ r_2.toInt = 1) := hw
  have hfl := hb_2 _ _ hb12
  refine a_if_eq (u := r_2.toInt) (tgt := 8) hx hb dX0_turnPage_4 (by decide) (rfl) (fun c_3 => ?_) (fun c_3 => absurd c_3 (by subst hj1; omega))
  refine lv_iconst (v := 0) hx hb dX0_turnPage_8 (by decide) ?_
  refine lv_istore_n (lv' := [(1, .int 0), (0, .ref (g 12))]) hx hb dX0_turnPage_9 rfl hl (by decide) rfl (fun ls hl => ?_)
  have loop10 : ∀ (ddloop10 : Nat) (le : Int32) (f_4 : Nat → va_E) (H : Heap) (locs : List Loc) (ls : Array Slot), (20 - le.toInt).toNat < ddloop10 → IN jn cI cR cM g L S f_4 → FR S [12, 20, 21] f f_4 → (0 ≤ le.toInt ∧ le.toInt ≤ 8) → (f_4 (g 12) = .inr (0, [.ref (g 20), .ref (g 21), .int tm, .int lk])) → (∃ c9 : Nat → Option Nat, f_4 (g 20) = refs cR 488 c9 ∧ (∀ i9 : Int, 0 ≤ i9 → i9 < 8 * (tm.toInt + 1) → c9 i9.toNat = cb i9.toNat) ∧ ∀ l9 : Int, 0 ≤ l9 → l9 < le.toInt → c9 (8 * (tm.toInt + 1) + l9).toNat = cb (8 * tm.toInt + l9).toNat) → (FX S (fun _ => False) [12, 20, 21] f f_4) → va_P D vwCl (va_pl L f_4) H → va_D A (va_pl L f_4) → va_S A s.heap H locs → lv_has ls 2 [(0, .ref (g 12)), (1, .int le)] → W p l e ({ frames := 1, cells := 0, slots := 0, locals := 20 }) s m args below meth c H locs (0) (0) Q (F0 m 10 ls []) := by
    intro ddloop10
    induction ddloop10 with
    | zero =>
      intro le f_4 H locs ls hdd
      exact absurd hdd (Nat.not_lt_zero _)
    | succ ddloop10 ih10 =>
      intro le f_4 H locs ls hdd hI hF hi hb2 hc hFX hP hD hS hl
      obtain ⟨c_5, fg_5, iv0_5⟩ := op_20 hI (gm_20 hG) (gs_20 hG)
      have hk9 := hi
      obtain ⟨iw0, iw1, iw2⟩ := iv_12 hI (gm_12 hG) (gs_12 hG) hb2
      obtain ⟨c9, hc1, hc2, hc3⟩ := hc
      have hce : c_5 = c9 := ref_in hc1 fg_5
      rw [← hce] at hc2 hc3
      refine lv_iload_n hx hb dX0_turnPage_10 rfl (lv_at hl 1 rfl) ?_
      refine lv_bipush (v := 8) hx hb dX0_turnPage_11 (by decide) ?_
      refine a_icmp_ge (u := le.toInt) (v := 8) (tgt := 52) hx hb dX0_turnPage_13 (by decide) (rfl) (by decide) (fun c_6 => ?_) (fun c_6 => ?_)
      · refine lv_aload_n hx hb dX0_turnPage_52 rfl (lv_at hl 0 rfl) ?_
        refine t_get (D := D) (L := L) (f := f_4) (ci := 0) (v := .ref (g 21)) (C := RX0) (T := TX0) (N := 4) hx hb hts (by decide +kernel) hown hK.1 hP (gm_12 hG) hb2 rfl 1 (by decide) (hts (.fieldLink RX0 19 "JugglingHall$Book" "marks" "[LJugglingHall$Marks;") (by decide +kernel)) (fun _ h9 => h9) rfl dX0_turnPage_53 ?_
        refine lv_aload_n hx hb dX0_turnPage_56 rfl (lv_at hl 0 rfl) ?_
        refine t_get (D := D) (L := L) (f := f_4) (ci := 0) (v := .int tm) (C := RX0) (T := TX0) (N := 4) hx hb hts (by decide +kernel) hown hK.1 hP (gm_12 hG) hb2 rfl 2 (by decide) (hts (.fieldLink RX0 23 "JugglingHall$Book" "time" "I") (by decide +kernel)) (fun _ h9 => h9) rfl dX0_turnPage_57 ?_
        refine lv_iconst (v := 1) hx hb dX0_turnPage_60 (by decide) ?_
        refine a_iadd (u := tm.toInt) (v := 1) hx hb dX0_turnPage_61 (rfl) (by decide) (by subst hj1; omega) (fun z_7 e_7 => ?_)
        refine lv_aload_n hx hb dX0_turnPage_62 rfl (lv_at hl 0 rfl) ?_
        refine t_get (D := D) (L := L) (f := f_4) (ci := 0) (v := .ref (g 21)) (C := RX0) (T := TX0) (N := 4) hx hb hts (by decide +kernel) hown hK.1 hP (gm_12 hG) hb2 rfl 1 (by decide) (hts (.fieldLink RX0 19 "JugglingHall$Book" "marks" "[LJugglingHall$Marks;") (by decide +kernel)) (fun _ h9 => h9) rfl dX0_turnPage_63 ?_
        refine lv_aload_n hx hb dX0_turnPage_66 rfl (lv_at hl 0 rfl) ?_
        refine t_get (D := D) (L := L) (f := f_4) (ci := 0) (v := .int tm) (C := RX0) (T := TX0) (N := 4) hx hb hts (by decide +kernel) hown hK.1 hP (gm_12 hG) hb2 rfl 2 (by decide) (hts (.fieldLink RX0 23 "JugglingHall$Book" "time" "I") (by decide +kernel)) (fun _ h9 => h9) rfl dX0_turnPage_67 ?_
        obtain ⟨c_8, fg_8, iv0_8⟩ := op_21 hI (gm_21 hG) (gs_21 hG)
        refine t_aald (L := L) (f := f_4) (y := c_8) (u := tm.toInt) hx hb hK.1 hP (gm_21 hG) 2 fg_8 rfl dX0_turnPage_70 (rfl) (by subst hj1; omega) (fun w_9 q_9 => ?_)
        have ho_9 : ∀ r, w_9 = some r → ∃ p, isMk L S r p := fun r h => iv0_8 tm.toInt (by subst hj1; omega) (by subst hj1; omega) r (q_9 ▸ h)
        rcases x_opt w_9 with e_10 | ⟨r_10, e_10⟩
        · subst e_10
          refine W.eq (g2 := F0 m 71 ls [.null, .int z_7, .ref (g 21)]) rfl ?_
          have hl : lv_has ls 2 [(0, .ref (g 12)), (1, .int le)] := hl
          refine t_aastN (L := L) (f := f_4) (y := c_8) (u := (tm.toInt + 1)) hx hb hK.1 hP hD hS (gm_21 hG) 2 fg_8 rfl dX0_turnPage_71 (e_7) (by subst hj1; omega) (fun f_11 H locs e9_11 o_11 hP hD hS => ?_)
          have ok_11 := opt_set (P := fun r => ∃ p, isMk L S r p) iv0_8 (k := (tm.toInt + 1)) (x := none) (by subst hj1; omega) (fun r9 h9 => by cases h9)
          have fa_11 : f_11 (g 21) = .inl (cM, 61, .inr (.inr (.inr (.inr (va_up c_8 (tm.toInt + 1).toNat none))))) := e9_11
          have hI := IN_set (e := .inl (cM, 61, .inr (.inr (.inr (.inr (va_up c_8 (tm.toInt + 1).toNat none)))))) hI (gs_21 hG) (mk_21 ok_11) fa_11 o_11
          have hF := FR_set hF (gs_21 hG) (show (21 : Nat) ∈ ([12, 20, 21] : List Nat) by decide) o_11
          have hFX := FX_setT hFX (gs_21 hG) (show (21 : Nat) ∈ ([12, 20, 21] : List Nat) by decide) o_11
          have fb_12 : f_11 (g 12) = .inr (0, [.ref (g 20), .ref (g 21), .int tm, .int lk]) := f_at o_11 (S_ne (gs_12 hG) (gs_21 hG) (show (12 : Nat) ≠ 21 by decide)) hb2
          have fb_13 : f_11 (g 20) = .inl (cR, 488, .inr (.inr (.inr (.inr c_5)))) := f_at o_11 (S_ne (gs_20 hG) (gs_21 hG) (show (20 : Nat) ≠ 21 by decide)) fg_5
          refine lv_aload_n hx hb dX0_turnPage_72 rfl (lv_at hl 0 rfl) ?_
          refine lv_dup hx hb dX0_turnPage_73 rfl ?_
          refine t_get (D := D) (L := L) (f := f_11) (ci := 0) (v := .int tm) (C := RX0) (T := TX0) (N := 4) hx hb hts (by decide +kernel) hown hK.1 hP (gm_12 hG) fb_12 rfl 2 (by decide) (hts (.fieldLink RX0 23 "JugglingHall$Book" "time" "I") (by decide +kernel)) (fun _ h9 => h9) rfl dX0_turnPage_74 ?_
          refine lv_iconst (v := 1) hx hb dX0_turnPage_77 (by decide) ?_
          refine a_iadd (u := tm.toInt) (v := 1) hx hb dX0_turnPage_78 (rfl) (by decide) (by subst hj1; omega) (fun z_14 e_14 => ?_)
          refine t_put (D := D) (L := L) (f := f_11) (ci := 0) (v := .int z_14) (ty := .int) (C := RX0) (T := TX0) (N := 4) hx hb hts (by decide +kernel) tyX0 tyX0_ok nmX0 hown hK.1 hP hD hS (gm_12 hG) fb_12 rfl 2 (by decide) (hts (.fieldLink RX0 23 "JugglingHall$Book" "time" "I") (by decide +kernel)) (fun _ h9 => h9) rfl (by decide +kernel) rfl rfl (Nat.le_of_ble_eq_true rfl) dX0_turnPage_79 (fun f_15 H locs e9_15 o_15 hP hD hS => ?_)
          have fa_15 : f_15 (g 12) = .inr (0, [.ref (g 20), .ref (g 21), .int z_14, .int lk]) := e9_15
          have hI := IN_set (e := .inr (0, [.ref (g 20), .ref (g 21), .int z_14, .int lk])) hI (gs_12 hG) (mk_12 (by first | assumption | omega | (subst hj1; omega)) (by first | assumption | omega | (subst hj1; omega)) (by first | assumption | omega | (subst hj1; omega))) fa_15 o_15
          have hF := FR_set hF (gs_12 hG) (show (12 : Nat) ∈ ([12, 20, 21] : List Nat) by decide) o_15
          have hFX := FX_setT hFX (gs_12 hG) (show (12 : Nat) ∈ ([12, 20, 21] : List Nat) by decide) o_15
          have fb_16 : f_15 (g 20) = .inl (cR, 488, .inr (.inr (.inr (.inr c_5)))) := f_at o_15 (S_ne (gs_20 hG) (gs_12 hG) (show (20 : Nat) ≠ 12 by decide)) fb_13
          have fb_17 : f_15 (g 21) = .inl (cM, 61, .inr (.inr (.inr (.inr (va_up c_8 (tm.toInt + 1).toNat none))))) := f_at o_15 (S_ne (gs_21 hG) (gs_12 hG) (show (21 : Nat) ≠ 12 by decide)) fa_11
          refine lv_aload_n hx hb dX0_turnPage_82 rfl (lv_at hl 0 rfl) ?_
          refine lv_aload_n hx hb dX0_turnPage_83 rfl (lv_at hl 0 rfl) ?_
          refine t_get (D := D) (L := L) (f := f_15) (ci := 0) (v := .int z_14) (C := RX0) (T := TX0) (N := 4) hx hb hts (by decide +kernel) hown hK.1 hP (gm_12 hG) fa_15 rfl 2 (by decide) (hts (.fieldLink RX0 23 "JugglingHall$Book" "time" "I") (by decide +kernel)) (fun _ h9 => h9) rfl dX0_turnPage_84 ?_
          refine t_put (D := D) (L := L) (f := f_15) (ci := 0) (v := .int z_14) (ty := .int) (C := RX0) (T := TX0) (N := 4) hx hb hts (by decide +kernel) tyX0 tyX0_ok nmX0 hown hK.1 hP hD hS (gm_12 hG) fa_15 rfl 3 (by decide) (hts (.fieldLink RX0 31 "JugglingHall$Book" "lookTime" "I") (by decide +kernel)) (fun _ h9 => h9) rfl (by decide +kernel) rfl rfl (Nat.le_of_ble_eq_true rfl) dX0_turnPage_87 (fun f_18 H locs e9_18 o_18 hP hD hS => ?_)
          have fa_18 : f_18 (g 12) = .inr (0, [.ref (g 20), .ref (g 21), .int z_14, .int z_14]) := e9_18
          have hI := IN_set (e := .inr (0, [.ref (g 20), .ref (g 21), .int z_14, .int z_14])) hI (gs_12 hG) (mk_12 (by first | assumption | omega | (subst hj1; omega)) (by first | assumption | omega | (subst hj1; omega)) (by first | assumption | omega | (subst hj1; omega))) fa_18 o_18
          have hF := FR_set hF (gs_12 hG) (show (12 : Nat) ∈ ([12, 20, 21] : List Nat) by decide) o_18
          have hFX := FX_setT hFX (gs_12 hG) (show (12 : Nat) ∈ ([12, 20, 21] : List Nat) by decide) o_18
          have fb_19 : f_18 (g 20) = .inl (cR, 488, .inr (.inr (.inr (.inr c_5)))) := f_at o_18 (S_ne (gs_20 hG) (gs_12 hG) (show (20 : Nat) ≠ 12 by decide)) fb_16
          have fb_20 : f_18 (g 21) = .inl (cM, 61, .inr (.inr (.inr (.inr (va_up c_8 (tm.toInt + 1).toNat none))))) := f_at o_18 (S_ne (gs_21 hG) (gs_12 hG) (show (21 : Nat) ≠ 12 by decide)) fb_17
          exact g_vret f_18 hx hb hr hlocks hS rfl (⟨hI, hF, show ∃ (c1 : Nat → Option Nat) (tm1 : Int32), f_18 (g 20) = refs cR 488 c1 ∧ f_18 (g 12) = .inr (0, [.ref (g 20), .ref (g 21), .int tm1, .int tm1]) ∧ tm1.toInt = tm.toInt + 1 ∧ (∀ i9 : Int, 0 ≤ i9 → i9 < 8 * (tm.toInt + 1) → c1 i9.toNat = cb i9.toNat) ∧ ∀ l9 : Int, 0 ≤ l9 → l9 < 8 → c1 (8 * (tm.toInt + 1) + l9).toNat = cb (8 * tm.toInt + l9).toNat from (⟨_, _, fb_19, fa_18, by omega, fun i9 h8 h9 => hc2 i9 h8 h9, fun l9 h8 h9 => hc3 l9 h8 (by subst hj1; omega)⟩), show FX S (fun _ => False) [12, 20, 21] f f_18 from (by first | assumption | omega | (subst hj1; omega))⟩) hP hD hQ (Nat.le_of_ble_eq_true rfl) (Nat.le_of_ble_eq_true rfl) dX0_turnPage_90
        · subst e_10
          refine W.eq (g2 := F0 m 71 ls [.ref r_10, .int z_7, .ref (g 21)]) rfl ?_
          have hl : lv_has ls 2 [(0, .ref (g 12)), (1, .int le)] := hl
          obtain ⟨p_21, m_21, s_21⟩ := ho_9 _ rfl
          obtain ⟨cnt_23, fg_23, v1_23, v2_23, mp_23, sp_23⟩ := op_2 hI m_21 s_21
          refine t_aast (L := L) (f := f_4) (y := c_8) (u := (tm.toInt + 1)) hx hb hK.1 hP hD hS (gm_21 hG) 2 3 fg_8 rfl m_21 fg_23 rfl dX0_turnPage_71 (e_7) (by subst hj1; omega) (fun f_22 H locs e9_22 o_22 hP hD hS => ?_)
          have ok_22 := opt_set (P := fun r => ∃ p, isMk L S r p) iv0_8 (k := (tm.toInt + 1)) (x := (some r_10)) (by subst hj1; omega) (fun r9 h9 => by cases h9; exact ⟨_, m_21, s_21⟩)
          have fa_22 : f_22 (g 21) = .inl (cM, 61, .inr (.inr (.inr (.inr (va_up c_8 (tm.toInt + 1).toNat (some r_10)))))) := e9_22
          have hI := IN_set (e := .inl (cM, 61, .inr (.inr (.inr (.inr (va_up c_8 (tm.toInt + 1).toNat (some r_10))))))) hI (gs_21 hG) (mk_21 ok_22) fa_22 o_22
          have hF := FR_set hF (gs_21 hG) (show (21 : Nat) ∈ ([12, 20, 21] : List Nat) by decide) o_22
          have hFX := FX_setT hFX (gs_21 hG) (show (21 : Nat) ∈ ([12, 20, 21] : List Nat) by decide) o_22
          have fb_24 : f_22 (g 12) = .inr (0, [.ref (g 20), .ref (g 21), .int tm, .int lk]) := f_at o_22 (S_ne (gs_12 hG) (gs_21 hG) (show (12 : Nat) ≠ 21 by decide)) hb2
          have fb_25 : f_22 (g 20) = .inl (cR, 488, .inr (.inr (.inr (.inr c_5)))) := f_at o_22 (S_ne (gs_20 hG) (gs_21 hG) (show (20 : Nat) ≠ 21 by decide)) fg_5
          have fb_26 : f_22 r_10 = .inr (3, [.ref p_21, .int cnt_23]) := f_at o_22 (S_ne s_21 (gs_21 hG) (show (2 : Nat) ≠ 21 by decide)) fg_23
          refine lv_aload_n hx hb dX0_turnPage_72 rfl (lv_at hl 0 rfl) ?_
          refine lv_dup hx hb dX0_turnPage_73 rfl ?_
          refine t_get (D := D) (L := L) (f := f_22) (ci := 0) (v := .int tm) (C := RX0) (T := TX0) (N := 4) hx hb hts (by decide +kernel) hown hK.1 hP (gm_12 hG) fb_24 rfl 2 (by decide) (hts (.fieldLink RX0 23 "JugglingHall$Book" "time" "I") (by decide +kernel)) (fun _ h9 => h9) rfl dX0_turnPage_74 ?_
          refine lv_iconst (v := 1) hx hb dX0_turnPage_77 (by decide) ?_
          refine a_iadd (u := tm.toInt) (v := 1) hx hb dX0_turnPage_78 (rfl) (by decide) (by subst hj1; omega) (fun z_27 e_27 => ?_)
          refine t_put (D := D) (L := L) (f := f_22) (ci := 0) (v := .int z_27) (ty := .int) (C := RX0) (T := TX0) (N := 4) hx hb hts (by decide +kernel) tyX0 tyX0_ok nmX0 hown hK.1 hP hD hS (gm_12 hG) fb_24 rfl 2 (by decide) (hts (.fieldLink RX0 23 "JugglingHall$Book" "time" "I") (by decide +kernel)) (fun _ h9 => h9) rfl (by decide +kernel) rfl rfl (Nat.le_of_ble_eq_true rfl) dX0_turnPage_79 (fun f_28 H locs e9_28 o_28 hP hD hS => ?_)
          have fa_28 : f_28 (g 12) = .inr (0, [.ref (g 20), .ref (g 21), .int z_27, .int lk]) := e9_28
          have hI := IN_set (e := .inr (0, [.ref (g 20), .ref (g 21), .int z_27, .int lk])) hI (gs_12 hG) (mk_12 (by first | assumption | omega | (subst hj1; omega)) (by first | assumption | omega | (subst hj1; omega)) (by first | assumption | omega | (subst hj1; omega))) fa_28 o_28
          have hF := FR_set hF (gs_12 hG) (show (12 : Nat) ∈ ([12, 20, 21] : List Nat) by decide) o_28
          have hFX := FX_setT hFX (gs_12 hG) (show (12 : Nat) ∈ ([12, 20, 21] : List Nat) by decide) o_28
          have fb_29 : f_28 (g 20) = .inl (cR, 488, .inr (.inr (.inr (.inr c_5)))) := f_at o_28 (S_ne (gs_20 hG) (gs_12 hG) (show (20 : Nat) ≠ 12 by decide)) fb_25
          have fb_30 : f_28 (g 21) = .inl (cM, 61, .inr (.inr (.inr (.inr (va_up c_8 (tm.toInt + 1).toNat (some r_10)))))) := f_at o_28 (S_ne (gs_21 hG) (gs_12 hG) (show (21 : Nat) ≠ 12 by decide)) fa_22
          have fb_31 : f_28 r_10 = .inr (3, [.ref p_21, .int cnt_23]) := f_at o_28 (S_ne s_21 (gs_12 hG) (show (2 : Nat) ≠ 12 by decide)) fb_26
          refine lv_aload_n hx hb dX0_turnPage_82 rfl (lv_at hl 0 rfl) ?_
          refine lv_aload_n hx hb dX0_turnPage_83 rfl (lv_at hl 0 rfl) ?_
          refine t_get (D := D) (L := L) (f := f_28) (ci := 0) (v := .int z_27) (C := RX0) (T := TX0) (N := 4) hx hb hts (by decide +kernel) hown hK.1 hP (gm_12 hG) fa_28 rfl 2 (by decide) (hts (.fieldLink RX0 23 "JugglingHall$Book" "time" "I") (by decide +kernel)) (fun _ h9 => h9) rfl dX0_turnPage_84 ?_
          refine t_put (D := D) (L := L) (f := f_28) (ci := 0) (v := .int z_27) (ty := .int) (C := RX0) (T := TX0) (N := 4) hx hb hts (by decide +kernel) tyX0 tyX0_ok nmX0 hown hK.1 hP hD hS (gm_12 hG) fa_28 rfl 3 (by decide) (hts (.fieldLink RX0 31 "JugglingHall$Book" "lookTime" "I") (by decide +kernel)) (fun _ h9 => h9) rfl (by decide +kernel) rfl rfl (Nat.le_of_ble_eq_true rfl) dX0_turnPage_87 (fun f_32 H locs e9_32 o_32 hP hD hS => ?_)
          have fa_32 : f_32 (g 12) = .inr (0, [.ref (g 20), .ref (g 21), .int z_27, .int z_27]) := e9_32
          have hI := IN_set (e := .inr (0, [.ref (g 20), .ref (g 21), .int z_27, .int z_27])) hI (gs_12 hG) (mk_12 (by first | assumption | omega | (subst hj1; omega)) (by first | assumption | omega | (subst hj1; omega)) (by first | assumption | omega | (subst hj1; omega))) fa_32 o_32
          have hF := FR_set hF (gs_12 hG) (show (12 : Nat) ∈ ([12, 20, 21] : List Nat) by decide) o_32
          have hFX := FX_setT hFX (gs_12 hG) (show (12 : Nat) ∈ ([12, 20, 21] : List Nat) by decide) o_32
          have fb_33 : f_32 (g 20) = .inl (cR, 488, .inr (.inr (.inr (.inr c_5)))) := f_at o_32 (S_ne (gs_20 hG) (gs_12 hG) (show (20 : Nat) ≠ 12 by decide)) fb_29
          have fb_34 : f_32 (g 21) = .inl (cM, 61, .inr (.inr (.inr (.inr (va_up c_8 (tm.toInt + 1).toNat (some r_10)))))) := f_at o_32 (S_ne (gs_21 hG) (gs_12 hG) (show (21 : Nat) ≠ 12 by decide)) fb_30
          have fb_35 : f_32 r_10 = .inr (3, [.ref p_21, .int cnt_23]) := f_at o_32 (S_ne s_21 (gs_12 hG) (show (2 : Nat) ≠ 12 by decide)) fb_31
          exact g_vret f_32 hx hb hr hlocks hS rfl (⟨hI, hF, show ∃ (c1 : Nat → Option Nat) (tm1 : Int32), f_32 (g 20) = refs cR 488 c1 ∧ f_32 (g 12) = .inr (0, [.ref (g 20), .ref (g 21), .int tm1, .int tm1]) ∧ tm1.toInt = tm.toInt + 1 ∧ (∀ i9 : Int, 0 ≤ i9 → i9 < 8 * (tm.toInt + 1) → c1 i9.toNat = cb i9.toNat) ∧ ∀ l9 : Int, 0 ≤ l9 → l9 < 8 → c1 (8 * (tm.toInt + 1) + l9).toNat = cb (8 * tm.toInt + l9).toNat from (⟨_, _, fb_33, fa_32, by omega, fun i9 h8 h9 => hc2 i9 h8 h9, fun l9 h8 h9 => hc3 l9 h8 (by subst hj1; omega)⟩), show FX S (fun _ => False) [12, 20, 21] f f_32 from (by first | assumption | omega | (subst hj1; omega))⟩) hP hD hQ (Nat.le_of_ble_eq_true rfl) (Nat.le_of_ble_eq_true rfl) dX0_turnPage_90
      · refine lv_aload_n hx hb dX0_turnPage_16 rfl (lv_at hl 0 rfl) ?_
        refine t_get (D := D) (L := L) (f := f_4) (ci := 0) (v := .ref (g 20)) (C := RX0) (T := TX0) (N := 4) hx hb hts (by decide +kernel) hown hK.1 hP (gm_12 hG) hb2 rfl 0 (by decide) (hts (.fieldLink RX0 11 "JugglingHall$Book" "rows" "[LJugglingHall$Row;") (by decide +kernel)) (fun _ h9 => h9) rfl dX0_turnPage_17 ?_
        refine lv_aload_n hx hb dX0_turnPage_20 rfl (lv_at hl 0 rfl) ?_
        refine t_get (D := D) (L := L) (f := f_4) (ci := 0) (v := .int tm) (C := RX0) (T := TX0) (N := 4) hx hb hts (by decide +kernel) hown hK.1 hP (gm_12 hG) hb2 rfl 2 (by decide) (hts (.fieldLink RX0 23 "JugglingHall$Book" "time" "I") (by decide +kernel)) (fun _ h9 => h9) rfl dX0_turnPage_21 ?_
        refine lv_iconst (v := 1) hx hb dX0_turnPage_24 (by decide) ?_
        refine a_iadd (u := tm.toInt) (v := 1) hx hb dX0_turnPage_25 (rfl) (by decide) (by subst hj1; omega) (fun z_36 e_36 => ?_)
        refine lv_bipush (v := 8) hx hb dX0_turnPage_26 (by decide) ?_
        refine a_imul (u := (tm.toInt + 1)) (v := 8) hx hb dX0_turnPage_28 (e_36) (by decide) (by subst hj1; omega) (fun z_37 e_37 => ?_)
        refine lv_iload_n hx hb dX0_turnPage_29 rfl (lv_at hl 1 rfl) ?_
        refine a_iadd (u := ((tm.toInt + 1) * 8)) (v := le.toInt) hx hb dX0_turnPage_30 (e_37) (rfl) (by subst hj1; omega) (fun z_38 e_38 => ?_)
        refine lv_aload_n hx hb dX0_turnPage_31 rfl (lv_at hl 0 rfl) ?_
        refine t_get (D := D) (L := L) (f := f_4) (ci := 0) (v := .ref (g 20)) (C := RX0) (T := TX0) (N := 4) hx hb hts (by decide +kernel) hown hK.1 hP (gm_12 hG) hb2 rfl 0 (by decide) (hts (.fieldLink RX0 11 "JugglingHall$Book" "rows" "[LJugglingHall$Row;") (by decide +kernel)) (fun _ h9 => h9) rfl dX0_turnPage_32 ?_
        refine lv_aload_n hx hb dX0_turnPage_35 rfl (lv_at hl 0 rfl) ?_
        refine t_get (D := D) (L := L) (f := f_4) (ci := 0) (v := .int tm) (C := RX0) (T := TX0) (N := 4) hx hb hts (by decide +kernel) hown hK.1 hP (gm_12 hG) hb2 rfl 2 (by decide) (hts (.fieldLink RX0 23 "JugglingHall$Book" "time" "I") (by decide +kernel)) (fun _ h9 => h9) rfl dX0_turnPage_36 ?_
        refine lv_bipush (v := 8) hx hb dX0_turnPage_39 (by decide) ?_
        refine a_imul (u := tm.toInt) (v := 8) hx hb dX0_turnPage_41 (rfl) (by decide) (by subst hj1; omega) (fun z_39 e_39 => ?_)
        refine lv_iload_n hx hb dX0_turnPage_42 rfl (lv_at hl 1 rfl) ?_
        refine a_iadd (u := (tm.toInt * 8)) (v := le.toInt) hx hb dX0_turnPage_43 (e_39) (rfl) (by subst hj1; omega) (fun z_40 e_40 => ?_)
        refine t_aald (L := L) (f := f_4) (y := c_5) (u := ((tm.toInt * 8) + le.toInt)) hx hb hK.1 hP (gm_20 hG) 1 fg_5 rfl dX0_turnPage_44 (e_40) (by subst hj1; omega) (fun w_41 q_41 => ?_)
        have ho_41 : ∀ r, w_41 = some r → ∃ p n, isRow L S r p n := fun r h => iv0_5 ((tm.toInt * 8) + le.toInt) (by subst hj1; omega) (by subst hj1; omega) r (q_41 ▸ h)
        rcases x_opt w_41 with e_42 | ⟨r_42, e_42⟩
        · subst e_42
          refine W.eq (g2 := F0 m 45 ls [.null, .int z_38, .ref (g 20)]) rfl ?_
          have hl : lv_has ls 2 [(0, .ref (g 12)), (1, .int le)] := hl
          refine t_aastN (L := L) (f := f_4) (y := c_5) (u := (((tm.toInt + 1) * 8) + le.toInt)) hx hb hK.1 hP hD hS (gm_20 hG) 1 fg_5 rfl dX0_turnPage_45 (e_38) (by subst hj1; omega) (fun f_43 H locs e9_43 o_43 hP hD hS => ?_)
          have ok_43 := opt_set (P := fun r => ∃ p n, isRow L S r p n) iv0_5 (k := (((tm.toInt + 1) * 8) + le.toInt)) (x := none) (by subst hj1; omega) (fun r9 h9 => by cases h9)
          have fa_43 : f_43 (g 20) = .inl (cR, 488, .inr (.inr (.inr (.inr (va_up c_5 (((tm.toInt + 1) * 8) + le.toInt).toNat none))))) := e9_43
          have hI := IN_set (e := .inl (cR, 488, .inr (.inr (.inr (.inr (va_up c_5 (((tm.toInt + 1) * 8) + le.toInt).toNat none)))))) hI (gs_20 hG) (mk_20 ok_43) fa_43 o_43
          have hF := FR_set hF (gs_20 hG) (show (20 : Nat) ∈ ([12, 20, 21] : List Nat) by decide) o_43
          have hFX := FX_setT hFX (gs_20 hG) (show (20 : Nat) ∈ ([12, 20, 21] : List Nat) by decide) o_43
          have fb_44 : f_43 (g 12) = .inr (0, [.ref (g 20), .ref (g 21), .int tm, .int lk]) := f_at o_43 (S_ne (gs_12 hG) (gs_20 hG) (show (12 : Nat) ≠ 20 by decide)) hb2
          obtain ⟨z_45, q_45, e_45⟩ := i_inc (a := le.toInt) (1) (rfl) (by decide) (by subst hj1; omega) (by subst hj1; omega)
          refine lv_iinc (v := z_45) (lv' := [(1, .int z_45), (0, .ref (g 12))]) hx hb dX0_turnPage_46 hl (k := 1) rfl q_45 (by decide) rfl (fun ls hl => ?_)
          refine lv_goto (tgt := 10) hx hb dX0_turnPage_49 (by decide) ?_
          exact ih10 z_45 f_43 _ _ _ (by subst hj1; omega) hI hF (by first | assumption | omega | (subst hj1; omega)) (fb_44) (⟨_, fa_43, fun i9 h8 h9 => by rw [va_up_ne _ _ (by subst hj1; omega)]; exact hc2 i9 h8 h9, fun l9 h8 h9 => by
            by_cases q9 : l9 = le.toInt
            · rw [q9, show 8 * (tm.toInt + 1) + le.toInt = (((tm.toInt + 1) * 8) + le.toInt) by omega, va_up_self, q_41, show ((tm.toInt * 8) + le.toInt) = 8 * tm.toInt + le.toInt by omega]; exact hc2 _ (by subst hj1; omega) (by subst hj1; omega)
            · rw [va_up_ne _ _ (by subst hj1; omega)]; exact hc3 l9 h8 (by subst hj1; omega)⟩) (by first | assumption | omega | (subst hj1; omega)) hP hD hS (lv_sub hl [1, 0] rfl)
        · subst e_42
          refine W.eq (g2 := F0 m 45 ls [.ref r_42, .int z_38, .ref (g 20)]) rfl ?_
          have hl : lv_has ls 2 [(0, .ref (g 12)), (1, .int le)] := hl
          obtain ⟨p_46, n_46, m_46, s_46⟩ := ho_41 _ rfl
          obtain ⟨len_48, fg_48, v1_48, v2_48, v3_48, mp_48, sp_48⟩ := op_0 hI m_46 s_46
          obtain ⟨w1_48, w2_48, w3_48, w4_48, w5_48⟩ := lenw hj v1_48 v2_48 v3_48
          refine t_aast (L := L) (f := f_4) (y := c_5) (u := (((tm.toInt + 1) * 8) + le.toInt)) hx hb hK.1 hP hD hS (gm_20 hG) 1 5 fg_5 rfl m_46 fg_48 rfl dX0_turnPage_45 (e_38) (by subst hj1; omega) (fun f_47 H locs e9_47 o_47 hP hD hS => ?_)
          have ok_47 := opt_set (P := fun r => ∃ p n, isRow L S r p n) iv0_5 (k := (((tm.toInt + 1) * 8) + le.toInt)) (x := (some r_42)) (by subst hj1; omega) (fun r9 h9 => by cases h9; exact ⟨_, _, m_46, s_46⟩)
          have fa_47 : f_47 (g 20) = .inl (cR, 488, .inr (.inr (.inr (.inr (va_up c_5 (((tm.toInt + 1) * 8) + le.toInt).toNat (some r_42)))))) := e9_47
          have hI := IN_set (e := .inl (cR, 488, .inr (.inr (.inr (.inr (va_up c_5 (((tm.toInt + 1) * 8) + le.toInt).toNat (some r_42))))))) hI (gs_20 hG) (mk_20 ok_47) fa_47 o_47
          have hF := FR_set hF (gs_20 hG) (show (20 : Nat) ∈ ([12, 20, 21] : List Nat) by decide) o_47
          have hFX := FX_setT hFX (gs_20 hG) (show (20 : Nat) ∈ ([12, 20, 21] : List Nat) by decide) o_47
          have fb_49 : f_47 (g 12) = .inr (0, [.ref (g 20), .ref (g 21), .int tm, .int lk]) := f_at o_47 (S_ne (gs_12 hG) (gs_20 hG) (show (12 : Nat) ≠ 20 by decide)) hb2
          have fb_50 : f_47 r_42 = .inr (5, [.int (nI jn), .int (nI (2 * jn)), .ref p_46, .int len_48]) := f_at o_47 (S_ne s_46 (gs_20 hG) (show (0 : Nat) ≠ 20 by decide)) fg_48
          obtain ⟨z_51, q_51, e_51⟩ := i_inc (a := le.toInt) (1) (rfl) (by decide) (by subst hj1; omega) (by subst hj1; omega)
          refine lv_iinc (v := z_51) (lv' := [(1, .int z_51), (0, .ref (g 12))]) hx hb dX0_turnPage_46 hl (k := 1) rfl q_51 (by decide) rfl (fun ls hl => ?_)
          refine lv_goto (tgt := 10) hx hb dX0_turnPage_49 (by decide) ?_
          exact ih10 z_51 f_47 _ _ _ (by subst hj1; omega) hI hF (by first | assumption | omega | (subst hj1; omega)) (fb_49) (⟨_, fa_47, fun i9 h8 h9 => by rw [va_up_ne _ _ (by subst hj1; omega)]; exact hc2 i9 h8 h9, fun l9 h8 h9 => by
            by_cases q9 : l9 = le.toInt
            · rw [q9, show 8 * (tm.toInt + 1) + le.toInt = (((tm.toInt + 1) * 8) + le.toInt) by omega, va_up_self, q_41, show ((tm.toInt * 8) + le.toInt) = 8 * tm.toInt + le.toInt by omega]; exact hc2 _ (by subst hj1; omega) (by subst hj1; omega)
            · rw [va_up_ne _ _ (by subst hj1; omega)]; exact hc3 l9 h8 (by subst hj1; omega)⟩) (by first | assumption | omega | (subst hj1; omega)) hP hD hS (lv_sub hl [1, 0] rfl)
  have hz_52 : (0 : Int32).toInt = 0 := by decide
  exact loop10 ((20 - (0 : Int32).toInt).toNat + 1) (0 : Int32) f _ _ _ (by subst hj1; omega) hI hF (by first | assumption | omega | (subst hj1; omega)) (hb12) (⟨cb, hb20, fun _ _ _ => rfl, fun l9 h8 h9 => absurd h9 (by subst hj1; omega)⟩) (by first | assumption | omega | (subst hj1; omega)) hP hD hS (lv_sub hl [1, 0] rfl)
set_option maxRecDepth 100000 in
set_option maxHeartbeats 4000000 in
theorem t_X0_writeRowm (l : Launch) (D : va_G) (cI cR cM : ClassId) (sz : Nat) {jn : Nat} {g : Nat → Nat} {L : List Nat} {S : Sg} {f : Nat → va_E} {b b_p b_n : Nat} {b_l : Int32} {b_c : Nat → Int32} {x : Int32} {cb : Nat → Option Nat} {tm lk : Int32} (hj : 1 ≤ jn ∧ jn ≤ 3) (hG : SG g L S) (hI : IN jn cI cR cM g L S f) (m_b : b ∈ L) (s_b : S b = (0, b_p, b_n)) (f_b : f b = .inr (5, [.int (nI jn), .int (nI (2 * jn)), .ref b_p, .int b_l])) (f_b_p : f b_p = .inl (cI, b_n, .inl b_c)) (hj1 : jn = 1) (hb20 : f (g 20) = .inl (cR, 488, .inr (.inr (.inr (.inr cb))))) (hb12 : f (g 12) = .inr (0, [.ref (g 20), .ref (g 21), .int tm, .int lk])) (hx0 : 0 ≤ x.toInt ∧ x.toInt < 8) : Met l yX0_writeRow wsX0_writeRow ({ frames := 0, cells := 0, slots := 0, locals := 0 }) (P0 D cI cR cM [.ref (g 12), .int x, .ref b] sz (va_pl L f)) (QG (S := Nat → va_E) (fun u => none) (fun u => va_pl L u) (fun u => IN jn cI cR cM g L S u ∧ FR S [20] f u ∧ (u (g 20) = refs cR 488 (va_up cb (8 * tm.toInt + x.toInt).toNat (some b))) ∧ (FX S (fun _ => False) [20] f u)) D (va_A (va_pl L f) sz)) 0 0 (va_A (va_pl L f) sz) := by
  refine go (cc := cX0_writeRow) (maxL := 3) (ret := none) (by decide +kernel) rfl (Nat.le_of_ble_eq_true rfl) ?_
  intro p e s m below meth c ls args Q hQ hsz hx hb hr hml hts hown hlocks hnm hP hK hD hl
  subst hsz
  have hD := hD.self (sz := s.heap.size)
  generalize hAe : va_A (va_pl L f) s.heap.size = A at hD hQ
  have hA : ∀ q, s.heap.size ≤ q → A q := fun q h => by rw [← hAe]; exact Or.inr h
  have hS : va_S A s.heap s.heap [] := va_S.rf
  have hFX : FX S (fun _ => False) [20] f f := FX_rf
  have hF : FR S [20] f f := FR_rf
  have hl : lv_has ls 3 [(0, .ref (g 12)), (1, .int x), (2, .ref b)] := hl
  obtain ⟨v1_b, v2_b, v3_b, m_b_p, s_b_p⟩ := iv_0 hI m_b s_b f_b
  obtain ⟨w1_b, w2_b, w3_b, w4_b, w5_b⟩ := lenw hj v1_b v2_b v3_b
  have k_b := iv_1 hI m_b_p s_b_p f_b_p
  refine lv_iload_n hx hb dX0_writeRow_0 rfl (lv_at hl 1 rfl) ?_
  refine a_if_lt (u := x.toInt) (tgt := 25) hx hb dX0_writeRow_1 (by decide) (rfl) (fun c_1 => absurd c_1 (by subst hj1; omega)) (fun c_1 => ?_)
  refine lv_iload_n hx hb dX0_writeRow_4 rfl (lv_at hl 1 rfl) ?_
  refine lv_bipush (v := 8) hx hb dX0_writeRow_5 (by decide) ?_
  refine a_icmp_ge (u := x.toInt) (v := 8) (tgt := 25) hx hb dX0_writeRow_7 (by decide) (rfl) (by decide) (fun c_2 => absurd c_2 (by subst hj1; omega)) (fun c_2 => ?_)
  obtain ⟨c_3, fg_3, iv0_3⟩ := op_20 hI (gm_20 hG) (gs_20 hG)
  have hce : c_3 = cb := ref_in (cR := cR) (n := 488) hb20 fg_3
  refine lv_aload_n hx hb dX0_writeRow_10 rfl (lv_at hl 0 rfl) ?_
  obtain ⟨tm_4, lk_4, fg_4, iv0_4, iv1_4, iv2_4⟩ := op_12 hI (gm_12 hG) (gs_12 hG)
  refine t_get (D := D) (L := L) (f := f) (ci := 0) (v := .ref (g 20)) (C := RX0) (T := TX0) (N := 4) hx hb hts (by decide +kernel) hown hK.1 hP (gm_12 hG) fg_4 rfl 0 (by decide) (hts (.fieldLink RX0 11 "JugglingHall$Book" "rows" "[LJugglingHall$Row;") (by decide +kernel)) (fun _ h9 => h9) rfl dX0_writeRow_11 ?_
  refine lv_aload_n hx hb dX0_writeRow_14 rfl (lv_at hl 0 rfl) ?_
  have htm9 := f12_at hb12 fg_4
  refine t_get (D := D) (L := L) (f := f) (ci := 0) (v := .int tm_4) (C := RX0) (T := TX0) (N := 4) hx hb hts (by decide +kernel) hown hK.1 hP (gm_12 hG) fg_4 rfl 2 (by decide) (hts (.fieldLink RX0 23 "JugglingHall$Book" "time" "I") (by decide +kernel)) (fun _ h9 => h9) rfl dX0_writeRow_15 ?_
  refine lv_bipush (v := 8) hx hb dX0_writeRow_18 (by decide) ?_
  refine a_imul (u := tm_4.toInt) (v := 8) hx hb dX0_writeRow_20 (rfl) (by decide) (by subst hj1; omega) (fun z_5 e_5 => ?_)
  refine lv_iload_n hx hb dX0_writeRow_21 rfl (lv_at hl 1 rfl) ?_
  refine a_iadd (u := (tm_4.toInt * 8)) (v := x.toInt) hx hb dX0_writeRow_22 (e_5) (rfl) (by subst hj1; omega) (fun z_6 e_6 => ?_)
  refine lv_aload_n hx hb dX0_writeRow_23 rfl (lv_at hl 2 rfl) ?_
  refine t_aast (L := L) (f := f) (y := c_3) (u := ((tm_4.toInt * 8) + x.toInt)) hx hb hK.1 hP hD hS (gm_20 hG) 1 5 fg_3 rfl m_b f_b rfl dX0_writeRow_24 (e_6) (by subst hj1; omega) (fun f_7 H locs e9_7 o_7 hP hD hS => ?_)
  have ok_7 := opt_set (P := fun r => ∃ p n, isRow L S r p n) iv0_3 (k := ((tm_4.toInt * 8) + x.toInt)) (x := (some b)) (by subst hj1; omega) (fun r9 h9 => by cases h9; exact ⟨_, _, m_b, s_b⟩)
  have fa_7 : f_7 (g 20) = .inl (cR, 488, .inr (.inr (.inr (.inr (va_up c_3 ((tm_4.toInt * 8) + x.toInt).toNat (some b)))))) := e9_7
  have hI := IN_set (e := .inl (cR, 488, .inr (.inr (.inr (.inr (va_up c_3 ((tm_4.toInt * 8) + x.toInt).toNat (some b))))))) hI (gs_20 hG) (mk_20 ok_7) fa_7 o_7
  have hF := FR_set hF (gs_20 hG) (show (20 : Nat) ∈ ([20] : List Nat) by decide) o_7
  have hFX := FX_setT hFX (gs_20 hG) (show (20 : Nat) ∈ ([20] : List Nat) by decide) o_7
  have fb_8 : f_7 b = .inr (5, [.int (nI jn), .int (nI (2 * jn)), .ref b_p, .int b_l]) := f_at o_7 (S_ne s_b (gs_20 hG) (show (0 : Nat) ≠ 20 by decide)) f_b
  have fb_9 : f_7 b_p = .inl (cI, b_n, .inl b_c) := f_at o_7 (S_ne s_b_p (gs_20 hG) (show (1 : Nat) ≠ 20 by decide)) f_b_p
  have fb_10 : f_7 (g 12) = .inr (0, [.ref (g 20), .ref (g 21), .int tm_4, .int lk_4]) := f_at o_7 (S_ne (gs_12 hG) (gs_20 hG) (show (12 : Nat) ≠ 20 by decide)) fg_4
  exact g_vret f_7 hx hb hr hlocks hS rfl (⟨hI, hF, show f_7 (g 20) = refs cR 488 (va_up cb (8 * tm.toInt + x.toInt).toNat (some b)) from (by
    rw [fa_7]
    unfold refs
    rw [show ((tm_4.toInt * 8) + x.toInt) = 8 * tm.toInt + x.toInt by omega, hce]), show FX S (fun _ => False) [20] f f_7 from (by first | assumption | omega | (subst hj1; omega))⟩) hP hD hQ (Nat.le_of_ble_eq_true rfl) (Nat.le_of_ble_eq_true rfl) dX0_writeRow_25
