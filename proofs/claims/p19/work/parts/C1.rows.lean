theorem ne_p {S : Sg} {a b p q n m : Nat} (h1 : S a = (1, n, p)) (h2 : S b = (1, m, q)) (h : p ≠ q) : a ≠ b := fun e => h (by rw [e, h2] at h1; cases h1; rfl)
theorem bk_s {w : Int → Int} {n k : Int} (h : 0 ≤ k) : bkW w 0 n (k + 1).toNat = (bkW w 0 n k.toNat).bind (fun s => insW s ((-(k / 2 + w k)) % n) (w k)) := by
  rw [show (k + 1).toNat = k.toNat + 1 by omega]
  show (bkW w 0 n k.toNat).bind (fun s => insW s ((-(((k.toNat : Nat) : Int) / 2 + w (2 * 0 + ((k.toNat : Nat) : Int)))) % n) (w (2 * 0 + ((k.toNat : Nat) : Int)))) = _
  rw [show ((k.toNat : Nat) : Int) = k by omega, show 2 * 0 + k = k by omega]
theorem bk_none {w : Int → Int} {n : Int} (k m : Nat) (h : bkW w 0 n k = none) : bkW w 0 n (k + m) = none := by
  induction m with
  | zero => exact h
  | succ m ih =>
    show (bkW w 0 n (k + m)).bind _ = none
    rw [ih]; rfl
theorem bk_none_le {w : Int → Int} {n k m : Int} (h0 : 0 ≤ k) (h1 : k ≤ m) (h : bkW w 0 n k.toNat = none) : bkW w 0 n m.toNat = none := by
  have := bk_none k.toNat (m.toNat - k.toNat) h
  rw [show k.toNat + (m.toNat - k.toNat) = m.toNat by omega] at this
  exact this
theorem ap_0 {v : Int → Int} {n i : Int} {z : Int} (hz : z = 0) (h0 : 0 ≤ i) : (if i < 2 * z then (0 : Int) else v (2 * 0 + (i - 2 * z))) = v i := by
  rw [if_neg (by omega), show 2 * 0 + (i - 2 * z) = i by omega]
/-- put in their order, as far as k places are done -/
def ovW (w : Int → Int) (k : Int) : Int → Int := fun j => if j < k then w j else 0
theorem ov_s {w : Int → Int} {k : Int} (h0 : 0 ≤ k) (hw : ∀ i : Int, 0 ≤ i → i ≤ k → 0 ≤ w i) (hs : k % 2 = 1 → w k ≤ w (k - 1)) : ∃ v, insW (ovW w k) (k / 2) (w k) = some v ∧ ∀ j : Int, 0 ≤ j → v j = ovW w (k + 1) j := by
  have hk := hw k h0 (Int.le_refl _)
  unfold insW
  by_cases e0 : w k = 0
  · refine ⟨_, if_pos e0, fun j j0 => ?_⟩
    unfold ovW
    by_cases q : j < k
    · rw [if_pos q, if_pos (by omega)]
    · rw [if_neg q]
      by_cases q2 : j = k
      · rw [if_pos (by omega), q2, e0]
      · rw [if_neg (by omega)]
  · rw [if_neg e0]
    have z1 : ovW w k (2 * (k / 2) + 1) = 0 := if_neg (by omega)
    rw [if_neg (by rw [z1]; omega)]
    rcases (show k % 2 = 0 ∨ k % 2 = 1 by omega) with q | q
    · have z0 : ovW w k (2 * (k / 2)) = 0 := if_neg (by omega)
      rw [if_pos (by rw [z0]; omega)]
      refine ⟨_, rfl, fun j j0 => ?_⟩
      by_cases q1 : j = 2 * (k / 2)
      · rw [q1, fu_s]; unfold ovW; rw [if_pos (by omega), show 2 * (k / 2) = k by omega]
      · rw [fu_n q1]
        by_cases q2 : j = 2 * (k / 2) + 1
        · rw [q2, fu_s, z0]; unfold ovW; rw [if_neg (by omega)]
        · rw [fu_n q2]; unfold ovW
          by_cases q3 : j < k
          · rw [if_pos q3, if_pos (by omega)]
          · rw [if_neg q3, if_neg (by omega)]
    · have z0 : ovW w k (2 * (k / 2)) = w (k - 1) := by unfold ovW; rw [if_pos (by omega), show 2 * (k / 2) = k - 1 by omega]
      rw [if_neg (by rw [z0]; have := hs q; omega)]
      refine ⟨_, rfl, fun j j0 => ?_⟩
      by_cases q2 : j = 2 * (k / 2) + 1
      · rw [q2, fu_s]; unfold ovW; rw [if_pos (by omega), show 2 * (k / 2) + 1 = k by omega]
      · rw [fu_n q2]; unfold ovW
        by_cases q3 : j < k
        · rw [if_pos q3, if_pos (by omega)]
        · rw [if_neg q3, if_neg (by omega)]
theorem tn_eq {v : Int → Int} {n x g j z1 z2 : Int} (hn : 1 ≤ n) (hg : g = x % n) (hz : z1 = 0) (h2 : z2 = n - g) (h0 : 0 ≤ j) (h1 : j < 2 * n) : (if j < 2 * z2 then (if j < 2 * z1 then (0 : Int) else v (2 * g + (j - 2 * z1))) else v (2 * 0 + (j - 2 * z2))) = v (2 * ((j / 2 + x) % n) + j % 2) := by
  have g0 := Int.emod_nonneg x (show n ≠ 0 by omega)
  have g1 := Int.emod_lt_of_pos x (show 0 < n by omega)
  have e : (j / 2 + x) % n = (j / 2 + g) % n := by rw [hg]; exact (Int.add_emod_emod (j / 2) x n).symm
  rw [e]
  by_cases q : j < 2 * z2
  · rw [if_pos q, if_neg (by omega), Int.emod_eq_of_lt (by omega) (by omega)]
    congr 1
    omega
  · rw [if_neg q]
    have : (j / 2 + g) % n = j / 2 + g - n := md_u (k := 1) (by omega) (by omega) (by omega)
    rw [this]
    congr 1
    omega
/-- the dual, as far as k beats are done -/
def duW (w : Int → Int) (n k : Int) : Int → Int := fun j => if j % 2 = 1 then 0 else if (-(j / 2)) % n < k then 9 - w (2 * ((-(j / 2)) % n)) else 0
theorem du_s {w : Int → Int} {n k : Int} (h0 : 0 ≤ k) (h1 : k < n) (hw : w (2 * k) ≤ 9) : ∃ v, insW (duW w n k) ((-k) % n) (9 - w (2 * k)) = some v ∧ ∀ j : Int, 0 ≤ j → j < 2 * n → v j = duW w n (k + 1) j := by
  have q1 := Int.emod_nonneg (-k) (show n ≠ 0 by omega)
  have q2 := Int.emod_lt_of_pos (-k) (show 0 < n by omega)
  have e1 : (-((-k) % n)) % n = k := (ng_md q1 q2 h0 h1).mpr rfl
  have base : ∀ j : Int, 0 ≤ j → j < 2 * n → (j % 2 = 1 ∨ j / 2 ≠ (-k) % n) → duW w n k j = duW w n (k + 1) j := fun j j0 j1 hj => by
    unfold duW
    by_cases e : j % 2 = 1
    · rw [if_pos e, if_pos e]
    · rw [if_neg e, if_neg e]
      have e2 : (-(j / 2)) % n ≠ k := fun q => by
        have := (ng_md (by omega) (by omega) h0 h1).mp q
        omega
      by_cases e3 : (-(j / 2)) % n < k
      · rw [if_pos e3, if_pos (by omega)]
      · rw [if_neg e3, if_neg (by omega)]
  have z0 : duW w n k (2 * ((-k) % n)) = 0 := by
    unfold duW
    rw [if_neg (by omega), show 2 * ((-k) % n) / 2 = (-k) % n by omega, e1, if_neg (by omega)]
  have z1 : duW w n k (2 * ((-k) % n) + 1) = 0 := by
    unfold duW
    rw [if_pos (by omega)]
  have t0 : duW w n (k + 1) (2 * ((-k) % n)) = 9 - w (2 * k) := by
    unfold duW
    rw [if_neg (by omega), show 2 * ((-k) % n) / 2 = (-k) % n by omega, e1, if_pos (by omega)]
  unfold insW
  by_cases e0 : 9 - w (2 * k) = 0
  · refine ⟨_, if_pos e0, fun j j0 j1 => ?_⟩
    by_cases e : j % 2 = 1 ∨ j / 2 ≠ (-k) % n
    · exact base j j0 j1 e
    · rw [show j = 2 * ((-k) % n) by omega, z0, t0, e0]
  · rw [if_neg e0, if_neg (by rw [z1]; omega), if_pos (by rw [z0]; omega)]
    refine ⟨_, rfl, fun j j0 j1 => ?_⟩
    by_cases e : j = 2 * ((-k) % n)
    · rw [e, fu_s, t0]
    · rw [fu_n e]
      by_cases e4 : j = 2 * ((-k) % n) + 1
      · rw [e4, fu_s, z0]; unfold duW; rw [if_pos (by omega)]
      · rw [fu_n e4]; exact base j j0 j1 (by omega)
set_option maxRecDepth 100000 in
set_option maxHeartbeats 4000000 in
theorem t_X5_takeFromm (l : Launch) (D : va_G) (cI cR cM : ClassId) (sz : Nat) {jn : Nat} {g : Nat → Nat} {L : List Nat} {S : Sg} {f : Nat → va_E} {b b_p b_n : Nat} {b_l : Int32} {b_c : Nat → Int32} {o o_p o_n : Nat} {o_l : Int32} {o_c : Nat → Int32} {v : Int → Int} (hj : 1 ≤ jn ∧ jn ≤ 3) (hG : SG g L S) (hI : IN jn cI cR cM g L S f) (m_b : b ∈ L) (s_b : S b = (0, b_p, b_n)) (f_b : f b = .inr (5, [.int (nI jn), .int (nI (2 * jn)), .ref b_p, .int b_l])) (f_b_p : f b_p = .inl (cI, b_n, .inl b_c)) (m_o : o ∈ L) (s_o : S o = (0, o_p, o_n)) (f_o : f o = .inr (5, [.int (nI jn), .int (nI (2 * jn)), .ref o_p, .int o_l])) (f_o_p : f o_p = .inl (cI, o_n, .inl o_c)) (hj1 : jn = 1) (hne : o ≠ b) (hv : RC o_c v o_l.toInt) (hcap : 2 * o_l.toInt ≤ (b_n : Int)) : Met l yX5_takeFrom wsX5_takeFrom ({ frames := 2, cells := 0, slots := 0, locals := 88 }) (P0 D cI cR cM [.ref b, .ref o] sz (va_pl L f)) (QG (S := Int32 × (Nat → va_E)) (fun u => some (.int u.1)) (fun u => va_pl L u.2) (fun u => IN jn cI cR cM g L S u.2 ∧ FR S [0, 1] f u.2 ∧ (u.1.toInt = 1 ∧ RWf cI jn S u.2 b o_l.toInt v) ∧ (FX S (fun a9 => a9 = b) [] f u.2) ∧ (u.1.toInt = 0 ∨ u.1.toInt = 1)) D (va_A (va_pl L f) sz)) 0 0 (va_A (va_pl L f) sz) := by
  refine go (cc := cX5_takeFrom) (maxL := 2) (ret := (some .boolean)) (by decide +kernel) rfl (Nat.le_of_ble_eq_true rfl) ?_
  intro p e s m below meth c ls args Q hQ hsz hx hb hr hml hts hown hlocks hnm hP hK hD hl
  subst hsz
  have hD := hD.self (sz := s.heap.size)
  generalize hAe : va_A (va_pl L f) s.heap.size = A at hD hQ
  have hA : ∀ q, s.heap.size ≤ q → A q := fun q h => by rw [← hAe]; exact Or.inr h
  have hS : va_S A s.heap s.heap [] := va_S.rf
  have hFX : FX S (fun a9 => a9 = b) [] f f := FX_rf
  have hF : FR S [0, 1] f f := FR_rf
  have hl : lv_has ls 2 [(0, .ref b), (1, .ref o)] := hl
  obtain ⟨v1_b, v2_b, v3_b, m_b_p, s_b_p⟩ := iv_0 hI m_b s_b f_b
  obtain ⟨w1_b, w2_b, w3_b, w4_b, w5_b⟩ := lenw hj v1_b v2_b v3_b
  have k_b := iv_1 hI m_b_p s_b_p f_b_p
  obtain ⟨v1_o, v2_o, v3_o, m_o_p, s_o_p⟩ := iv_0 hI m_o s_o f_o
  obtain ⟨w1_o, w2_o, w3_o, w4_o, w5_o⟩ := lenw hj v1_o v2_o v3_o
  have k_o := iv_1 hI m_o_p s_o_p f_o_p
  refine lv_aload_n hx hb dX5_takeFrom_0 rfl (lv_at hl 0 rfl) ?_
  refine lv_iconst (v := 0) hx hb dX5_takeFrom_1 (by decide) ?_
  have hz_2 : (0 : Int32).toInt = 0 := by decide
  refine t_put (D := D) (L := L) (f := f) (ci := 5) (v := .int 0) (ty := .int) (C := RX5) (T := TX5) (N := 4) hx hb hts (by decide +kernel) tyX5 tyX5_ok nmX5 hown hK.1 hP hD hS m_b f_b rfl 3 (by decide) (hts (.fieldLink RX5 28 "JugglingHall$Row" "length" "I") (by decide +kernel)) (fun _ h9 => h9) rfl (by decide +kernel) rfl rfl (Nat.le_of_ble_eq_true rfl) dX5_takeFrom_2 (fun f_1 H locs e9_1 o_1 hP hD hS => ?_)
  have fa_1 : f_1 b = .inr (5, [.int (nI jn), .int (nI (2 * jn)), .ref b_p, .int 0]) := e9_1
  have hI := IN_set (e := .inr (5, [.int (nI jn), .int (nI (2 * jn)), .ref b_p, .int 0])) hI s_b (mk_0 (by first | assumption | omega | (subst hj1; omega)) (by rw [show (0 : Int32).toInt = 0 from rfl, Int.zero_mul]; omega) (by first | assumption | omega | (subst hj1; omega)) (by first | assumption | omega | (subst hj1; omega)) (by first | assumption | omega | (subst hj1; omega))) fa_1 o_1
  have hF := FR_set hF s_b (show (0 : Nat) ∈ ([0, 1] : List Nat) by decide) o_1
  have hFX := FX_set0 hFX s_b (rfl) o_1
  have fb_3 : f_1 b_p = .inl (cI, b_n, .inl b_c) := f_at o_1 (S_ne s_b_p s_b (show (1 : Nat) ≠ 0 by decide)) f_b_p
  have fb_4 : f_1 o = .inr (5, [.int (nI jn), .int (nI (2 * jn)), .ref o_p, .int o_l]) := f_at o_1 (hne) f_o
  have fb_5 : f_1 o_p = .inl (cI, o_n, .inl o_c) := f_at o_1 (S_ne s_o_p s_b (show (1 : Nat) ≠ 0 by decide)) f_o_p
  refine lv_aload_n hx hb dX5_takeFrom_5 rfl (lv_at hl 0 rfl) ?_
  refine lv_aload_n hx hb dX5_takeFrom_6 rfl (lv_at hl 1 rfl) ?_
  refine lv_iconst (v := 0) hx hb dX5_takeFrom_7 (by decide) ?_
  refine lv_aload_n hx hb dX5_takeFrom_8 rfl (lv_at hl 1 rfl) ?_
  refine t_get (D := D) (L := L) (f := f_1) (ci := 5) (v := .int o_l) (C := RX5) (T := TX5) (N := 4) hx hb hts (by decide +kernel) hown hK.1 hP m_o fb_4 rfl 3 (by decide) (hts (.fieldLink RX5 28 "JugglingHall$Row" "length" "I") (by decide +kernel)) (fun _ h9 => h9) rfl dX5_takeFrom_9 ?_
  have hz_6 : (0 : Int32).toInt = 0 := by decide
  have hz_7 : (0 : Int32).toInt = 0 := by decide
  refine call_p (va_runV (As := [.ref o, .int 0, .int o_l]) (rest := []) ⟨hx, hb, hml, hown, hts⟩ (t_X5_appendm l D cI cR cM _ (w := fun _ => 0) (v := v)  hj hG hI m_b s_b fa_1 fb_3 m_o s_o fb_4 fb_5 (by first | assumption | omega | (subst hj1; omega)) (by rw [show (0 : Int32).toInt = 0 from rfl]; omega) (fun i9 h8 h9 => absurd h9 (by rw [show (0 : Int32).toInt = 0 from rfl]; omega)) (hv)) (cwV 3 hts gX5_takeFrom_X5_append rfl rfl rfl (by decide +kernel) ⟨Nat.le_of_ble_eq_true rfl, Nat.le_of_ble_eq_true rfl⟩) (pre_T hK hP hD m_b fa_1 rfl) rfl rfl hl.1 rfl (lv_room (Nat.le_of_ble_eq_true rfl)) dX5_takeFrom_12 ⟨Nat.le_of_ble_eq_true rfl, Nat.le_of_ble_eq_true rfl⟩) hD hS hA (fun u_8 H locs hw hP hD hS => ?_)
  obtain ⟨r_8, f_8⟩ := u_8
  obtain ⟨hI, hF_8, hp_8, hfx_8, h01_8⟩ : IN jn cI cR cM g L S f_8 ∧ FR S [0, 1] f_1 f_8 ∧ ((r_8.toInt = 1 ∧ 2 * ((0 : Int32).toInt + (o_l.toInt - (0 : Int32).toInt)) ≤ (b_n : Int) ∧ RWf cI jn S f_8 b ((0 : Int32).toInt + (o_l.toInt - (0 : Int32).toInt)) (fun j => if j < 2 * (0 : Int32).toInt then (fun _ => (0 : Int)) j else v (2 * (0 : Int32).toInt + (j - 2 * (0 : Int32).toInt)))) ∨ (r_8.toInt = 0 ∧ (b_n : Int) < 2 * ((0 : Int32).toInt + (o_l.toInt - (0 : Int32).toInt)))) ∧ (FX S (fun a9 => a9 = b) [] f_1 f_8) ∧ (r_8.toInt = 0 ∨ r_8.toInt = 1) := hw
  have hP : va_P D vwCl (va_pl L f_8) H := hP
  have hD : va_D A (va_pl L f_8) := hD
  have hF := FR_tr hF hF_8 (by decide)
  have hFX := FX_tr hFX hfx_8 (fun _ h9 => h9) (by decide)
  have fb_9 : f_8 o = .inr (5, [.int (nI jn), .int (nI (2 * jn)), .ref o_p, .int o_l]) := (hfx_8 o (by rw [own_0 s_o]; exact hne) (by rw [s_o]; exact (show (0 : Nat) ∉ ([] : List Nat) by decide))).trans fb_4
  have fb_10 : f_8 o_p = .inl (cI, o_n, .inl o_c) := (hfx_8 o_p (by rw [own_1 s_o_p]; exact hne) (by rw [s_o_p]; exact (show (1 : Nat) ∉ ([] : List Nat) by decide))).trans fb_5
  exact g_zret (r_8, f_8) hx hb hr hlocks hS (b01 (by subst hj1; omega)) rfl (⟨hI, hF, show r_8.toInt = 1 ∧ RWf cI jn S f_8 b o_l.toInt v from (by
    rcases hp_8 with ⟨h6, h7, h8⟩ | ⟨h6, h7⟩
    · rw [show (0 : Int32).toInt + (o_l.toInt - (0 : Int32).toInt) = o_l.toInt by rw [show (0 : Int32).toInt = 0 from rfl]; omega] at h8
      exact ⟨h6, RWf_c h8 (fun i9 i0 i1 => ap_0 (n := 0) rfl i0)⟩
    · exfalso; rw [show (0 : Int32).toInt = 0 from rfl] at h7; omega), show FX S (fun a9 => a9 = b) [] f f_8 from (by first | assumption | omega | (subst hj1; omega)), show r_8.toInt = 0 ∨ r_8.toInt = 1 from (by first | assumption | omega | (subst hj1; omega))⟩) hP hD hQ (Nat.le_of_ble_eq_true rfl) (Nat.le_of_ble_eq_true rfl) dX5_takeFrom_15
set_option maxRecDepth 100000 in
set_option maxHeartbeats 4000000 in
theorem t_X5_takeBackm (l : Launch) (D : va_G) (cI cR cM : ClassId) (sz : Nat) {jn : Nat} {g : Nat → Nat} {L : List Nat} {S : Sg} {f : Nat → va_E} {b b_p b_n : Nat} {b_l : Int32} {b_c : Nat → Int32} {o o_p o_n : Nat} {o_l : Int32} {o_c : Nat → Int32} {v : Int → Int} (hj : 1 ≤ jn ∧ jn ≤ 3) (hG : SG g L S) (hI : IN jn cI cR cM g L S f) (m_b : b ∈ L) (s_b : S b = (0, b_p, b_n)) (f_b : f b = .inr (5, [.int (nI jn), .int (nI (2 * jn)), .ref b_p, .int b_l])) (f_b_p : f b_p = .inl (cI, b_n, .inl b_c)) (m_o : o ∈ L) (s_o : S o = (0, o_p, o_n)) (f_o : f o = .inr (5, [.int (nI jn), .int (nI (2 * jn)), .ref o_p, .int o_l])) (f_o_p : f o_p = .inl (cI, o_n, .inl o_c)) (hj1 : jn = 1) (hne : o ≠ b) (hv : RC o_c v o_l.toInt) (hcap : 2 * o_l.toInt ≤ (b_n : Int)) (hpos : 1 ≤ o_l.toInt) : Met l yX5_takeBack wsX5_takeBack ({ frames := 2, cells := 0, slots := 0, locals := 44 }) (P0 D cI cR cM [.ref b, .ref o] sz (va_pl L f)) (QG (S := Int32 × (Nat → va_E)) (fun u => some (.int u.1)) (fun u => va_pl L u.2) (fun u => IN jn cI cR cM g L S u.2 ∧ FR S [0, 1] f u.2 ∧ ((u.1.toInt = 1 ∧ ∃ s9 : Int → Int, bkW v 0 o_l.toInt (2 * o_l.toInt).toNat = some s9 ∧ RWf cI jn S u.2 b o_l.toInt s9) ∨ (u.1.toInt = 0 ∧ bkW v 0 o_l.toInt (2 * o_l.toInt).toNat = none)) ∧ (FX S (fun a9 => a9 = b) [] f u.2) ∧ (u.1.toInt = 0 ∨ u.1.toInt = 1)) D (va_A (va_pl L f) sz)) 0 0 (va_A (va_pl L f) sz) := by
  refine go (cc := cX5_takeBack) (maxL := 5) (ret := (some .boolean)) (by decide +kernel) rfl (Nat.le_of_ble_eq_true rfl) ?_
  intro p e s m below meth c ls args Q hQ hsz hx hb hr hml hts hown hlocks hnm hP hK hD hl
  subst hsz
  have hD := hD.self (sz := s.heap.size)
  generalize hAe : va_A (va_pl L f) s.heap.size = A at hD hQ
  have hA : ∀ q, s.heap.size ≤ q → A q := fun q h => by rw [← hAe]; exact Or.inr h
  have hS : va_S A s.heap s.heap [] := va_S.rf
  have hFX : FX S (fun a9 => a9 = b) [] f f := FX_rf
  have hF : FR S [0, 1] f f := FR_rf
  have hl : lv_has ls 5 [(0, .ref b), (1, .ref o)] := hl
  obtain ⟨v1_b, v2_b, v3_b, m_b_p, s_b_p⟩ := iv_0 hI m_b s_b f_b
  obtain ⟨w1_b, w2_b, w3_b, w4_b, w5_b⟩ := lenw hj v1_b v2_b v3_b
  have k_b := iv_1 hI m_b_p s_b_p f_b_p
  obtain ⟨v1_o, v2_o, v3_o, m_o_p, s_o_p⟩ := iv_0 hI m_o s_o f_o
  obtain ⟨w1_o, w2_o, w3_o, w4_o, w5_o⟩ := lenw hj v1_o v2_o v3_o
  have k_o := iv_1 hI m_o_p s_o_p f_o_p
  refine lv_aload_n hx hb dX5_takeBack_0 rfl (lv_at hl 0 rfl) ?_
  refine lv_aload_n hx hb dX5_takeBack_1 rfl (lv_at hl 1 rfl) ?_
  refine t_get (D := D) (L := L) (f := f) (ci := 5) (v := .int o_l) (C := RX5) (T := TX5) (N := 4) hx hb hts (by decide +kernel) hown hK.1 hP m_o f_o rfl 3 (by decide) (hts (.fieldLink RX5 28 "JugglingHall$Row" "length" "I") (by decide +kernel)) (fun _ h9 => h9) rfl dX5_takeBack_2 ?_
  refine call_p (va_runV (As := [.int o_l]) (rest := []) ⟨hx, hb, hml, hown, hts⟩ (t_X5_resetm l D cI cR cM _   hj hG hI m_b s_b f_b f_b_p (by first | assumption | omega | (subst hj1; omega)) (by first | assumption | omega | (subst hj1; omega))) (cwV 1 hts gX5_takeBack_X5_reset rfl rfl rfl (by decide +kernel) ⟨Nat.le_of_ble_eq_true rfl, Nat.le_of_ble_eq_true rfl⟩) (pre_T hK hP hD m_b f_b rfl) rfl rfl hl.1 rfl (lv_room (Nat.le_of_ble_eq_true rfl)) dX5_takeBack_5 ⟨Nat.le_of_ble_eq_true rfl, Nat.le_of_ble_eq_true rfl⟩) hD hS hA (fun u_1 H locs hw hP hD hS => ?_)
  obtain ⟨f_1, e0_1⟩ : ∃ x, x = u_1 := ⟨_, rfl⟩
  subst e0_1
  obtain ⟨hI, hF_1, hp_1, hfx_1⟩ : IN jn cI cR cM g L S f_1 ∧ FR S [0, 1] f f_1 ∧ (RWf cI jn S f_1 b o_l.toInt (fun _ => 0)) ∧ (FX S (fun a9 => a9 = b) [] f f_1) := hw
  have hP : va_P D vwCl (va_pl L f_1) H := hP
  have hD : va_D A (va_pl L f_1) := hD
  have hF := FR_tr hF hF_1 (by decide)
  have hFX := FX_tr hFX hfx_1 (fun _ h9 => h9) (by decide)
  have fb_2 : f_1 o = .inr (5, [.int (nI jn), .int (nI (2 * jn)), .ref o_p, .int o_l]) := (hfx_1 o (by rw [own_0 s_o]; exact hne) (by rw [s_o]; exact (show (0 : Nat) ∉ ([] : List Nat) by decide))).trans f_o
  have fb_3 : f_1 o_p = .inl (cI, o_n, .inl o_c) := (hfx_1 o_p (by rw [own_1 s_o_p]; exact hne) (by rw [s_o_p]; exact (show (1 : Nat) ∉ ([] : List Nat) by decide))).trans f_o_p
  refine lv_iconst (v := 0) hx hb dX5_takeBack_8 (by decide) ?_
  refine lv_istore_n (lv' := [(2, .int 0), (0, .ref b), (1, .ref o)]) hx hb dX5_takeBack_9 rfl hl (by decide) rfl (fun ls hl => ?_)
  have loop10 : ∀ (ddloop10 : Nat) (ce : Int32) (f_4 : Nat → va_E) (H : Heap) (locs : List Loc) (ls : Array Slot), (200 - ce.toInt).toNat < ddloop10 → IN jn cI cR cM g L S f_4 → FR S [0, 1] f f_4 → (0 ≤ ce.toInt ∧ ce.toInt ≤ 2 * o_l.toInt) → (∃ s9 : Int → Int, bkW v 0 o_l.toInt ce.toInt.toNat = some s9 ∧ RWf cI jn S f_4 b o_l.toInt s9) → (f_4 o = .inr (5, [.int (nI jn), .int (nI (2 * jn)), .ref o_p, .int o_l])) → (f_4 o_p = .inl (cI, o_n, .inl o_c)) → (FX S (fun a9 => a9 = b) [] f f_4) → va_P D vwCl (va_pl L f_4) H → va_D A (va_pl L f_4) → va_S A s.heap H locs → lv_has ls 5 [(0, .ref b), (1, .ref o), (2, .int ce)] → W p l e ({ frames := 2, cells := 0, slots := 0, locals := 44 }) s m args below meth c H locs (0) (0) Q (F0 m 10 ls []) := by
    intro ddloop10
    induction ddloop10 with
    | zero =>
      intro ce f_4 H locs ls hdd
      exact absurd hdd (Nat.not_lt_zero _)
    | succ ddloop10 ih10 =>
      intro ce f_4 H locs ls hdd hI hF hi hRW0 fo fop hFX hP hD hS hl
      obtain ⟨s9, hs1, hRW⟩ := hRW0
      refine lv_iload_n hx hb dX5_takeBack_10 rfl (lv_at hl 2 rfl) ?_
      refine lv_aload_n hx hb dX5_takeBack_11 rfl (lv_at hl 1 rfl) ?_
      refine roP (va_runV (As := []) (rest := [.int ce]) ⟨hx, hb, hml, hown, hts⟩ (t_X5_cellCountm l D cI cR cM _   hj hG hI m_o s_o fo fop (by first | assumption | omega | (subst hj1; omega))) (cwV 0 hts gX5_takeBack_X5_cellCount rfl rfl rfl (by decide +kernel) ⟨Nat.le_of_ble_eq_true rfl, Nat.le_of_ble_eq_true rfl⟩) (pre_T hK hP hD m_o fo rfl) rfl rfl hl.1 rfl (lv_room (Nat.le_of_ble_eq_true rfl)) dX5_takeBack_12 ⟨Nat.le_of_ble_eq_true rfl, Nat.le_of_ble_eq_true rfl⟩) hS hA hP (fun r_5 H locs hw hP hS => ?_)
      have h_5 : (r_5.toInt = 2 * o_l.toInt) := hw
      refine a_icmp_ge (u := ce.toInt) (v := r_5.toInt) (tgt := 66) hx hb dX5_takeBack_15 (by decide) (rfl) (rfl) (fun c_6 => ?_) (fun c_6 => ?_)
      · refine lv_iconst (v := 1) hx hb dX5_takeBack_66 (by decide) ?_
        have hz_7 : (1 : Int32).toInt = 1 := by decide
        exact g_zret ((1 : Int32), f_4) hx hb hr hlocks hS (by first | exact Or.inl rfl | exact Or.inr rfl) rfl (⟨hI, hF, show ((1 : Int32).toInt = 1 ∧ ∃ s9 : Int → Int, bkW v 0 o_l.toInt (2 * o_l.toInt).toNat = some s9 ∧ RWf cI jn S f_4 b o_l.toInt s9) ∨ ((1 : Int32).toInt = 0 ∧ bkW v 0 o_l.toInt (2 * o_l.toInt).toNat = none) from (Or.inl ⟨rfl, s9, by rw [← hs1]; congr 1; omega, hRW⟩), show FX S (fun a9 => a9 = b) [] f f_4 from (by first | assumption | omega | (subst hj1; omega)), show (1 : Int32).toInt = 0 ∨ (1 : Int32).toInt = 1 from (by first | assumption | omega | (subst hj1; omega))⟩) hP hD hQ (Nat.le_of_ble_eq_true rfl) (Nat.le_of_ble_eq_true rfl) dX5_takeBack_67
      · refine lv_aload_n hx hb dX5_takeBack_18 rfl (lv_at hl 1 rfl) ?_
        refine lv_iload_n hx hb dX5_takeBack_19 rfl (lv_at hl 2 rfl) ?_
        refine roP (va_runV (As := [.int ce]) (rest := []) ⟨hx, hb, hml, hown, hts⟩ (t_X5_heightm l D cI cR cM _ (w := v)  hj hG hI m_o s_o fo fop (by first | assumption | omega | (subst hj1; omega)) (by first | assumption | omega | (subst hj1; omega)) (hv)) (cwV 1 hts gX5_takeBack_X5_height rfl rfl rfl (by decide +kernel) ⟨Nat.le_of_ble_eq_true rfl, Nat.le_of_ble_eq_true rfl⟩) (pre_T hK hP hD m_o fo rfl) rfl rfl hl.1 rfl (lv_room (Nat.le_of_ble_eq_true rfl)) dX5_takeBack_20 ⟨Nat.le_of_ble_eq_true rfl, Nat.le_of_ble_eq_true rfl⟩) hS hA hP (fun r_8 H locs hw hP hS => ?_)
        obtain ⟨h_8, hb_8⟩ : (r_8.toInt = v ce.toInt) ∧ (0 ≤ r_8.toInt ∧ r_8.toInt ≤ 9) := hw
        refine lv_istore_n (lv' := [(3, .int r_8), (0, .ref b), (1, .ref o), (2, .int ce)]) hx hb dX5_takeBack_23 rfl hl (by decide) rfl (fun ls hl => ?_)
        refine lv_aload_n hx hb dX5_takeBack_24 rfl (lv_at hl 1 rfl) ?_
        refine lv_aload_n hx hb dX5_takeBack_25 rfl (lv_at hl 2 rfl) ?_
        refine lv_iload_n hx hb dX5_takeBack_26 rfl (lv_at hl 3 rfl) ?_
        refine roP (va_runV (As := [.int ce]) (rest := [.ref b]) ⟨hx, hb, hml, hown, hts⟩ (t_X5_beatOfm l D cI cR cM _   hj hG hI m_o s_o fo fop (by first | assumption | omega | (subst hj1; omega)) (by first | assumption | omega | (subst hj1; omega))) (cwV 1 hts gX5_takeBack_X5_beatOf rfl rfl rfl (by decide +kernel) ⟨Nat.le_of_ble_eq_true rfl, Nat.le_of_ble_eq_true rfl⟩) (pre_T hK hP hD m_o fo rfl) rfl rfl hl.1 rfl (lv_room (Nat.le_of_ble_eq_true rfl)) dX5_takeBack_27 ⟨Nat.le_of_ble_eq_true rfl, Nat.le_of_ble_eq_true rfl⟩) hS hA hP (fun r_9 H locs hw hP hS => ?_)
        have h_9 : (r_9.toInt = ce.toInt / 2) := hw
        refine lv_iload_n hx hb dX5_takeBack_30 rfl (lv_at hl 0 rfl) ?_
        refine a_iadd (u := r_9.toInt) (v := r_8.toInt) hx hb dX5_takeBack_31 (rfl) (rfl) (by subst hj1; omega) (fun z_10 e_10 => ?_)
        refine a_ineg (u := (r_9.toInt + r_8.toInt)) hx hb dX5_takeBack_32 (e_10) (by subst hj1; omega) (fun z_11 e_11 => ?_)
        obtain ⟨len_12, fg_12, v1_12, v2_12, v3_12, mp_12, sp_12⟩ := op_0 hI m_b s_b
        obtain ⟨w1_12, w2_12, w3_12, w4_12, w5_12⟩ := lenw hj v1_12 v2_12 v3_12
        obtain ⟨c_13, fg_13, iv0_13⟩ := op_1 hI m_b_p s_b_p
        obtain ⟨hl_14, hc_14⟩ := RWf_at hRW s_b fg_12 fg_13
        refine roP (va_runV (As := [.int z_11]) (rest := []) ⟨hx, hb, hml, hown, hts⟩ (t_X5_beatInRoundm l D cI cR cM _   hj hG hI m_b s_b fg_12 fg_13 (by first | assumption | omega | (subst hj1; omega)) (by subst hj1; omega)) (cwV 1 hts gX5_takeBack_X5_beatInRound rfl rfl rfl (by decide +kernel) ⟨Nat.le_of_ble_eq_true rfl, Nat.le_of_ble_eq_true rfl⟩) (pre_T hK hP hD m_b fg_12 rfl) rfl rfl hl.1 rfl (lv_room (Nat.le_of_ble_eq_true rfl)) dX5_takeBack_33 ⟨Nat.le_of_ble_eq_true rfl, Nat.le_of_ble_eq_true rfl⟩) hS hA hP (fun r_15 H locs hw hP hS => ?_)
        obtain ⟨h_15, hb_15⟩ : (r_15.toInt = z_11.toInt % len_12.toInt) ∧ (0 ≤ r_15.toInt ∧ r_15.toInt < len_12.toInt) := hw
        refine lv_istore (lv' := [(4, .int r_15), (3, .int r_8), (0, .ref b), (1, .ref o), (2, .int ce)]) hx hb dX5_takeBack_36 hl (by decide) rfl (fun ls hl => ?_)
        refine lv_aload_n hx hb dX5_takeBack_38 rfl (lv_at hl 2 rfl) ?_
        refine lv_iload hx hb dX5_takeBack_39 (lv_at hl 0 rfl) ?_
        refine lv_aload_n hx hb dX5_takeBack_41 rfl (lv_at hl 3 rfl) ?_
        refine lv_iload_n hx hb dX5_takeBack_42 rfl (lv_at hl 4 rfl) ?_
        refine roP (va_runV (As := [.int ce]) (rest := [.int r_15, .ref b]) ⟨hx, hb, hml, hown, hts⟩ (t_X5_targetm l D cI cR cM _ (w := v)  hj hG hI m_o s_o fo fop (by first | assumption | omega | (subst hj1; omega)) (by first | assumption | omega | (subst hj1; omega)) (hv)) (cwV 1 hts gX5_takeBack_X5_target rfl rfl rfl (by decide +kernel) ⟨Nat.le_of_ble_eq_true rfl, Nat.le_of_ble_eq_true rfl⟩) (pre_T hK hP hD m_o fo rfl) rfl rfl hl.1 rfl (lv_room (Nat.le_of_ble_eq_true rfl)) dX5_takeBack_43 ⟨Nat.le_of_ble_eq_true rfl, Nat.le_of_ble_eq_true rfl⟩) hS hA hP (fun r_16 H locs hw hP hS => ?_)
        obtain ⟨h_16, hb_16⟩ : (v ce.toInt ≠ 0 → r_16.toInt = 0) ∧ (0 ≤ r_16.toInt ∧ r_16.toInt ≤ 3) := hw
        refine lv_iload_n hx hb dX5_takeBack_46 rfl (lv_at hl 1 rfl) ?_
        refine lv_aload_n hx hb dX5_takeBack_47 rfl (lv_at hl 3 rfl) ?_
        refine lv_iload_n hx hb dX5_takeBack_48 rfl (lv_at hl 4 rfl) ?_
        refine roP (va_runV (As := [.int ce]) (rest := [.int r_8, .int r_16, .int r_15, .ref b]) ⟨hx, hb, hml, hown, hts⟩ (t_X5_jugglerOfm l D cI cR cM _   hj hG hI m_o s_o fo fop (by first | assumption | omega | (subst hj1; omega)) (by first | assumption | omega | (subst hj1; omega))) (cwV 1 hts gX5_takeBack_X5_jugglerOf rfl rfl rfl (by decide +kernel) ⟨Nat.le_of_ble_eq_true rfl, Nat.le_of_ble_eq_true rfl⟩) (pre_T hK hP hD m_o fo rfl) rfl rfl hl.1 rfl (lv_room (Nat.le_of_ble_eq_true rfl)) dX5_takeBack_49 ⟨Nat.le_of_ble_eq_true rfl, Nat.le_of_ble_eq_true rfl⟩) hS hA hP (fun r_17 H locs hw hP hS => ?_)
        have h_17 : (r_17.toInt = 0) := hw
        refine call_p (va_runV (As := [.int r_15, .int r_16, .int r_8, .int r_17]) (rest := []) ⟨hx, hb, hml, hown, hts⟩ (t_X5_putm l D cI cR cM _ (w := s9)  hj hG hI m_b s_b fg_12 fg_13 (by first | assumption | omega | (subst hj1; omega)) (by subst hj1; omega) (by
          by_cases q9 : v ce.toInt = 0
          · exact Or.inl (by subst hj1; omega)
          · exact Or.inr ⟨h_16 q9, h_17⟩) (by first | assumption | omega | (subst hj1; omega)) (by rw [hl_14]; exact hc_14)) (cwV 4 hts gX5_takeBack_X5_put rfl rfl rfl (by decide +kernel) ⟨Nat.le_of_ble_eq_true rfl, Nat.le_of_ble_eq_true rfl⟩) (pre_T hK hP hD m_b fg_12 rfl) rfl rfl hl.1 rfl (lv_room (Nat.le_of_ble_eq_true rfl)) dX5_takeBack_52 ⟨Nat.le_of_ble_eq_true rfl, Nat.le_of_ble_eq_true rfl⟩) hD hS hA (fun u_18 H locs hw hP hD hS => ?_)
        obtain ⟨r_18, f_18⟩ := u_18
        obtain ⟨hI, hF_18, hp_18, hfx_18, h01_18⟩ : IN jn cI cR cM g L S f_18 ∧ FR S [1] f_4 f_18 ∧ ((r_18.toInt = 1 ∧ ∃ v9, insW s9 r_15.toInt r_8.toInt = some v9 ∧ RWf cI jn S f_18 b len_12.toInt v9) ∨ (r_18.toInt = 0 ∧ insW s9 r_15.toInt r_8.toInt = none)) ∧ (FX S (fun a9 => a9 = b) [] f_4 f_18) ∧ (r_18.toInt = 0 ∨ r_18.toInt = 1) := hw
        have hP : va_P D vwCl (va_pl L f_18) H := hP
        have hD : va_D A (va_pl L f_18) := hD
        have hF := FR_tr hF hF_18 (by decide)
        have hFX := FX_tr hFX hfx_18 (fun _ h9 => h9) (by decide)
        have fb_19 : f_18 o = .inr (5, [.int (nI jn), .int (nI (2 * jn)), .ref o_p, .int o_l]) := FR_at hF_18 s_o (show (0 : Nat) ∉ ([1] : List Nat) by decide) fo
        have fb_20 : f_18 o_p = .inl (cI, o_n, .inl o_c) := (hfx_18 o_p (by rw [own_1 s_o_p]; exact hne) (by rw [s_o_p]; exact (show (1 : Nat) ∉ ([] : List Nat) by decide))).trans fop
        have fb_21 : f_18 b = .inr (5, [.int (nI jn), .int (nI (2 * jn)), .ref b_p, .int len_12]) := FR_at hF_18 s_b (show (0 : Nat) ∉ ([1] : List Nat) by decide) fg_12
        refine a_if_ne (u := r_18.toInt) (tgt := 60) hx hb dX5_takeBack_55 (by decide) (rfl) (fun c_22 => ?_) (fun c_22 => ?_)
        · obtain ⟨z_23, q_23, e_23⟩ := i_inc (a := ce.toInt) (1) (rfl) (by decide) (by subst hj1; omega) (by subst hj1; omega)
          refine lv_iinc (v := z_23) (lv' := [(2, .int z_23), (4, .int r_15), (3, .int r_8), (0, .ref b), (1, .ref o)]) hx hb dX5_takeBack_60 hl (k := 4) rfl q_23 (by decide) rfl (fun ls hl => ?_)
          refine lv_goto (tgt := 10) hx hb dX5_takeBack_63 (by decide) ?_
          exact ih10 z_23 f_18 _ _ _ (by subst hj1; omega) hI hF (by first | assumption | omega | (subst hj1; omega)) (by
            obtain ⟨h6, v9, h7, h8⟩ := hp_18.resolve_right (fun q9 => by have := q9.1; omega)
            refine ⟨v9, ?_, by rw [← hl_14]; exact h8⟩
            rw [show z_23.toInt = ce.toInt + 1 by omega, bk_s (by subst hj1; omega), hs1]
            show insW s9 _ _ = some v9
            rw [← h7, h_8, h_15, hl_14, show z_11.toInt = -(ce.toInt / 2 + v ce.toInt) by omega]) (fb_19) (fb_20) (by first | assumption | omega | (subst hj1; omega)) hP hD hS (lv_sub hl [3, 4, 0] rfl)
        · refine lv_iconst (v := 0) hx hb dX5_takeBack_58 (by decide) ?_
          have hz_24 : (0 : Int32).toInt = 0 := by decide
          exact g_zret ((0 : Int32), f_18) hx hb hr hlocks hS (by first | exact Or.inl rfl | exact Or.inr rfl) rfl (⟨hI, hF, show ((0 : Int32).toInt = 1 ∧ ∃ s9 : Int → Int, bkW v 0 o_l.toInt (2 * o_l.toInt).toNat = some s9 ∧ RWf cI jn S f_18 b o_l.toInt s9) ∨ ((0 : Int32).toInt = 0 ∧ bkW v 0 o_l.toInt (2 * o_l.toInt).toNat = none) from (Or.inr ⟨rfl, by
            have h6 := hp_18.resolve_left (fun q9 => by have := q9.1; omega)
            refine bk_none_le (k := ce.toInt + 1) (by subst hj1; omega) (by subst hj1; omega) ?_
            rw [bk_s (by subst hj1; omega), hs1]
            show insW s9 _ _ = none
            rw [← h6.2, h_8, h_15, hl_14, show z_11.toInt = -(ce.toInt / 2 + v ce.toInt) by omega]⟩), show FX S (fun a9 => a9 = b) [] f f_18 from (by first | assumption | omega | (subst hj1; omega)), show (0 : Int32).toInt = 0 ∨ (0 : Int32).toInt = 1 from (by first | assumption | omega | (subst hj1; omega))⟩) hP hD hQ (Nat.le_of_ble_eq_true rfl) (Nat.le_of_ble_eq_true rfl) dX5_takeBack_59
  have hz_25 : (0 : Int32).toInt = 0 := by decide
  exact loop10 ((200 - (0 : Int32).toInt).toNat + 1) (0 : Int32) f_1 _ _ _ (by subst hj1; omega) hI hF (by first | assumption | omega | (subst hj1; omega)) (⟨fun _ => 0, rfl, hp_1⟩) (fb_2) (fb_3) (by first | assumption | omega | (subst hj1; omega)) hP hD hS (lv_sub hl [1, 2, 0] rfl)
set_option maxRecDepth 100000 in
set_option maxHeartbeats 4000000 in
theorem t_X5_takeOverm (l : Launch) (D : va_G) (cI cR cM : ClassId) (sz : Nat) {jn : Nat} {g : Nat → Nat} {L : List Nat} {S : Sg} {f : Nat → va_E} {b b_p b_n : Nat} {b_l : Int32} {b_c : Nat → Int32} {o o_p o_n : Nat} {o_l : Int32} {o_c : Nat → Int32} {v : Int → Int} (hj : 1 ≤ jn ∧ jn ≤ 3) (hG : SG g L S) (hI : IN jn cI cR cM g L S f) (m_b : b ∈ L) (s_b : S b = (0, b_p, b_n)) (f_b : f b = .inr (5, [.int (nI jn), .int (nI (2 * jn)), .ref b_p, .int b_l])) (f_b_p : f b_p = .inl (cI, b_n, .inl b_c)) (m_o : o ∈ L) (s_o : S o = (0, o_p, o_n)) (f_o : f o = .inr (5, [.int (nI jn), .int (nI (2 * jn)), .ref o_p, .int o_l])) (f_o_p : f o_p = .inl (cI, o_n, .inl o_c)) (hj1 : jn = 1) (hne : o ≠ b) (hv : RC o_c v o_l.toInt) (hcap : 2 * o_l.toInt ≤ (b_n : Int)) (hsr : ∀ b9 : Int, 0 ≤ b9 → b9 < o_l.toInt → Srt v b9) : Met l yX5_takeOver wsX5_takeOver ({ frames := 2, cells := 0, slots := 0, locals := 44 }) (P0 D cI cR cM [.ref b, .ref o] sz (va_pl L f)) (QG (S := Nat → va_E) (fun u => none) (fun u => va_pl L u) (fun u => IN jn cI cR cM g L S u ∧ FR S [0, 1] f u ∧ (RWf cI jn S u b o_l.toInt v) ∧ (FX S (fun a9 => a9 = b) [] f u)) D (va_A (va_pl L f) sz)) 0 0 (va_A (va_pl L f) sz) := by
  refine go (cc := cX5_takeOver) (maxL := 5) (ret := none) (by decide +kernel) rfl (Nat.le_of_ble_eq_true rfl) ?_
  intro p e s m below meth c ls args Q hQ hsz hx hb hr hml hts hown hlocks hnm hP hK hD hl
  subst hsz
  have hD := hD.self (sz := s.heap.size)
  generalize hAe : va_A (va_pl L f) s.heap.size = A at hD hQ
  have hA : ∀ q, s.heap.size ≤ q → A q := fun q h => by rw [← hAe]; exact Or.inr h
  have hS : va_S A s.heap s.heap [] := va_S.rf
  have hFX : FX S (fun a9 => a9 = b) [] f f := FX_rf
  have hF : FR S [0, 1] f f := FR_rf
  have hl : lv_has ls 5 [(0, .ref b), (1, .ref o)] := hl
  obtain ⟨v1_b, v2_b, v3_b, m_b_p, s_b_p⟩ := iv_0 hI m_b s_b f_b
  obtain ⟨w1_b, w2_b, w3_b, w4_b, w5_b⟩ := lenw hj v1_b v2_b v3_b
  have k_b := iv_1 hI m_b_p s_b_p f_b_p
  obtain ⟨v1_o, v2_o, v3_o, m_o_p, s_o_p⟩ := iv_0 hI m_o s_o f_o
  obtain ⟨w1_o, w2_o, w3_o, w4_o, w5_o⟩ := lenw hj v1_o v2_o v3_o
  have k_o := iv_1 hI m_o_p s_o_p f_o_p
  refine lv_aload_n hx hb dX5_takeOver_0 rfl (lv_at hl 0 rfl) ?_
  refine lv_aload_n hx hb dX5_takeOver_1 rfl (lv_at hl 1 rfl) ?_
  refine t_get (D := D) (L := L) (f := f) (ci := 5) (v := .int o_l) (C := RX5) (T := TX5) (N := 4) hx hb hts (by decide +kernel) hown hK.1 hP m_o f_o rfl 3 (by decide) (hts (.fieldLink RX5 28 "JugglingHall$Row" "length" "I") (by decide +kernel)) (fun _ h9 => h9) rfl dX5_takeOver_2 ?_
  refine call_p (va_runV (As := [.int o_l]) (rest := []) ⟨hx, hb, hml, hown, hts⟩ (t_X5_resetm l D cI cR cM _   hj hG hI m_b s_b f_b f_b_p (by first | assumption | omega | (subst hj1; omega)) (by first | assumption | omega | (subst hj1; omega))) (cwV 1 hts gX5_takeOver_X5_reset rfl rfl rfl (by decide +kernel) ⟨Nat.le_of_ble_eq_true rfl, Nat.le_of_ble_eq_true rfl⟩) (pre_T hK hP hD m_b f_b rfl) rfl rfl hl.1 rfl (lv_room (Nat.le_of_ble_eq_true rfl)) dX5_takeOver_5 ⟨Nat.le_of_ble_eq_true rfl, Nat.le_of_ble_eq_true rfl⟩) hD hS hA (fun u_1 H locs hw hP hD hS => ?_)
  obtain ⟨f_1, e0_1⟩ : ∃ x, x = u_1 := ⟨_, rfl⟩
  subst e0_1
  obtain ⟨hI, hF_1, hp_1, hfx_1⟩ : IN jn cI cR cM g L S f_1 ∧ FR S [0, 1] f f_1 ∧ (RWf cI jn S f_1 b o_l.toInt (fun _ => 0)) ∧ (FX S (fun a9 => a9 = b) [] f f_1) := hw
  have hP : va_P D vwCl (va_pl L f_1) H := hP
  have hD : va_D A (va_pl L f_1) := hD
  have hF := FR_tr hF hF_1 (by decide)
  have hFX := FX_tr hFX hfx_1 (fun _ h9 => h9) (by decide)
  have fb_2 : f_1 o = .inr (5, [.int (nI jn), .int (nI (2 * jn)), .ref o_p, .int o_l]) := (hfx_1 o (by rw [own_0 s_o]; exact hne) (by rw [s_o]; exact (show (0 : Nat) ∉ ([] : List Nat) by decide))).trans f_o
  have fb_3 : f_1 o_p = .inl (cI, o_n, .inl o_c) := (hfx_1 o_p (by rw [own_1 s_o_p]; exact hne) (by rw [s_o_p]; exact (show (1 : Nat) ∉ ([] : List Nat) by decide))).trans f_o_p
  refine lv_iconst (v := 0) hx hb dX5_takeOver_8 (by decide) ?_
  refine lv_istore_n (lv' := [(2, .int 0), (0, .ref b), (1, .ref o)]) hx hb dX5_takeOver_9 rfl hl (by decide) rfl (fun ls hl => ?_)
  have loop10 : ∀ (ddloop10 : Nat) (ce : Int32) (f_4 : Nat → va_E) (H : Heap) (locs : List Loc) (ls : Array Slot), (200 - ce.toInt).toNat < ddloop10 → IN jn cI cR cM g L S f_4 → FR S [0, 1] f f_4 → (0 ≤ ce.toInt ∧ ce.toInt ≤ 2 * o_l.toInt) → (RWf cI jn S f_4 b o_l.toInt (ovW v ce.toInt)) → (f_4 o = .inr (5, [.int (nI jn), .int (nI (2 * jn)), .ref o_p, .int o_l])) → (f_4 o_p = .inl (cI, o_n, .inl o_c)) → (FX S (fun a9 => a9 = b) [] f f_4) → va_P D vwCl (va_pl L f_4) H → va_D A (va_pl L f_4) → va_S A s.heap H locs → lv_has ls 5 [(0, .ref b), (1, .ref o), (2, .int ce)] → W p l e ({ frames := 2, cells := 0, slots := 0, locals := 44 }) s m args below meth c H locs (0) (0) Q (F0 m 10 ls []) := by
    intro ddloop10
    induction ddloop10 with
    | zero =>
      intro ce f_4 H locs ls hdd
      exact absurd hdd (Nat.not_lt_zero _)
    | succ ddloop10 ih10 =>
      intro ce f_4 H locs ls hdd hI hF hi hRW fo fop hFX hP hD hS hl
      have hk9 := hi
      refine lv_iload_n hx hb dX5_takeOver_10 rfl (lv_at hl 2 rfl) ?_
      refine lv_aload_n hx hb dX5_takeOver_11 rfl (lv_at hl 1 rfl) ?_
      refine roP (va_runV (As := []) (rest := [.int ce]) ⟨hx, hb, hml, hown, hts⟩ (t_X5_cellCountm l D cI cR cM _   hj hG hI m_o s_o fo fop (by first | assumption | omega | (subst hj1; omega))) (cwV 0 hts gX5_takeOver_X5_cellCount rfl rfl rfl (by decide +kernel) ⟨Nat.le_of_ble_eq_true rfl, Nat.le_of_ble_eq_true rfl⟩) (pre_T hK hP hD m_o fo rfl) rfl rfl hl.1 rfl (lv_room (Nat.le_of_ble_eq_true rfl)) dX5_takeOver_12 ⟨Nat.le_of_ble_eq_true rfl, Nat.le_of_ble_eq_true rfl⟩) hS hA hP (fun r_5 H locs hw hP hS => ?_)
      have h_5 : (r_5.toInt = 2 * o_l.toInt) := hw
      refine a_icmp_ge (u := ce.toInt) (v := r_5.toInt) (tgt := 69) hx hb dX5_takeOver_15 (by decide) (rfl) (rfl) (fun c_6 => ?_) (fun c_6 => ?_)
      · exact g_vret f_4 hx hb hr hlocks hS rfl (⟨hI, hF, show RWf cI jn S f_4 b o_l.toInt v from (RWf_c hRW (fun i9 i0 i1 => by unfold ovW; rw [if_pos (by subst hj1; omega)])), show FX S (fun a9 => a9 = b) [] f f_4 from (by first | assumption | omega | (subst hj1; omega))⟩) hP hD hQ (Nat.le_of_ble_eq_true rfl) (Nat.le_of_ble_eq_true rfl) dX5_takeOver_69
      · refine lv_aload_n hx hb dX5_takeOver_18 rfl (lv_at hl 1 rfl) ?_
        refine lv_iload_n hx hb dX5_takeOver_19 rfl (lv_at hl 2 rfl) ?_
        refine roP (va_runV (As := [.int ce]) (rest := []) ⟨hx, hb, hml, hown, hts⟩ (t_X5_jugglerOfm l D cI cR cM _   hj hG hI m_o s_o fo fop (by first | assumption | omega | (subst hj1; omega)) (by first | assumption | omega | (subst hj1; omega))) (cwV 1 hts gX5_takeOver_X5_jugglerOf rfl rfl rfl (by decide +kernel) ⟨Nat.le_of_ble_eq_true rfl, Nat.le_of_ble_eq_true rfl⟩) (pre_T hK hP hD m_o fo rfl) rfl rfl hl.1 rfl (lv_room (Nat.le_of_ble_eq_true rfl)) dX5_takeOver_20 ⟨Nat.le_of_ble_eq_true rfl, Nat.le_of_ble_eq_true rfl⟩) hS hA hP (fun r_7 H locs hw hP hS => ?_)
        have h_7 : (r_7.toInt = 0) := hw
        refine lv_iconst (v := 1) hx hb dX5_takeOver_23 (by decide) ?_
        refine a_iadd (u := r_7.toInt) (v := 1) hx hb dX5_takeOver_24 (rfl) (by decide) (by subst hj1; omega) (fun z_8 e_8 => ?_)
        refine lv_aload_n hx hb dX5_takeOver_25 rfl (lv_at hl 0 rfl) ?_
        obtain ⟨len_9, fg_9, v1_9, v2_9, v3_9, mp_9, sp_9⟩ := op_0 hI m_b s_b
        obtain ⟨w1_9, w2_9, w3_9, w4_9, w5_9⟩ := lenw hj v1_9 v2_9 v3_9
        refine t_get (D := D) (L := L) (f := f_4) (ci := 5) (v := .int (nI jn)) (C := RX5) (T := TX5) (N := 4) hx hb hts (by decide +kernel) hown hK.1 hP m_b fg_9 rfl 0 (by decide) (hts (.fieldLink RX5 15 "JugglingHall$Row" "jugglers" "I") (by decide +kernel)) (fun _ h9 => h9) rfl dX5_takeOver_26 ?_
        refine a_irem (u := (r_7.toInt + 1)) (v := (jn : Int)) hx hb dX5_takeOver_29 (e_8) (nI_toInt (by subst hj1; omega)) (by subst hj1; omega) (fun z_10 e_10 h_10 k_10 => ?_)
        refine lv_istore_n (lv' := [(3, .int z_10), (0, .ref b), (1, .ref o), (2, .int ce)]) hx hb dX5_takeOver_30 rfl hl (by decide) rfl (fun ls hl => ?_)
        refine lv_aload_n hx hb dX5_takeOver_31 rfl (lv_at hl 2 rfl) ?_
        refine lv_iload_n hx hb dX5_takeOver_32 rfl (lv_at hl 3 rfl) ?_
        refine roP (va_runV (As := [.int ce]) (rest := []) ⟨hx, hb, hml, hown, hts⟩ (t_X5_targetm l D cI cR cM _ (w := v)  hj hG hI m_o s_o fo fop (by first | assumption | omega | (subst hj1; omega)) (by first | assumption | omega | (subst hj1; omega)) (hv)) (cwV 1 hts gX5_takeOver_X5_target rfl rfl rfl (by decide +kernel) ⟨Nat.le_of_ble_eq_true rfl, Nat.le_of_ble_eq_true rfl⟩) (pre_T hK hP hD m_o fo rfl) rfl rfl hl.1 rfl (lv_room (Nat.le_of_ble_eq_true rfl)) dX5_takeOver_33 ⟨Nat.le_of_ble_eq_true rfl, Nat.le_of_ble_eq_true rfl⟩) hS hA hP (fun r_11 H locs hw hP hS => ?_)
        obtain ⟨h_11, hb_11⟩ : (v ce.toInt ≠ 0 → r_11.toInt = 0) ∧ (0 ≤ r_11.toInt ∧ r_11.toInt ≤ 3) := hw
        refine lv_iconst (v := 1) hx hb dX5_takeOver_36 (by decide) ?_
        refine a_iadd (u := r_11.toInt) (v := 1) hx hb dX5_takeOver_37 (rfl) (by decide) (by subst hj1; omega) (fun z_12 e_12 => ?_)
        refine lv_aload_n hx hb dX5_takeOver_38 rfl (lv_at hl 1 rfl) ?_
        refine t_get (D := D) (L := L) (f := f_4) (ci := 5) (v := .int (nI jn)) (C := RX5) (T := TX5) (N := 4) hx hb hts (by decide +kernel) hown hK.1 hP m_b fg_9 rfl 0 (by decide) (hts (.fieldLink RX5 15 "JugglingHall$Row" "jugglers" "I") (by decide +kernel)) (fun _ h9 => h9) rfl dX5_takeOver_39 ?_
        refine a_irem (u := (r_11.toInt + 1)) (v := (jn : Int)) hx hb dX5_takeOver_42 (e_12) (nI_toInt (by subst hj1; omega)) (by subst hj1; omega) (fun z_13 e_13 h_13 k_13 => ?_)
        refine lv_istore (lv' := [(4, .int z_13), (3, .int z_10), (0, .ref b), (1, .ref o), (2, .int ce)]) hx hb dX5_takeOver_43 hl (by decide) rfl (fun ls hl => ?_)
        refine lv_aload_n hx hb dX5_takeOver_45 rfl (lv_at hl 2 rfl) ?_
        refine lv_aload_n hx hb dX5_takeOver_46 rfl (lv_at hl 3 rfl) ?_
        refine lv_iload_n hx hb dX5_takeOver_47 rfl (lv_at hl 4 rfl) ?_
        obtain ⟨c_14, fg_14, iv0_14⟩ := op_1 hI m_b_p s_b_p
        obtain ⟨hl_15, hc_15⟩ := RWf_at hRW s_b fg_9 fg_14
        refine roP (va_runV (As := [.int ce]) (rest := [.ref b]) ⟨hx, hb, hml, hown, hts⟩ (t_X5_beatOfm l D cI cR cM _   hj hG hI m_o s_o fo fop (by first | assumption | omega | (subst hj1; omega)) (by first | assumption | omega | (subst hj1; omega))) (cwV 1 hts gX5_takeOver_X5_beatOf rfl rfl rfl (by decide +kernel) ⟨Nat.le_of_ble_eq_true rfl, Nat.le_of_ble_eq_true rfl⟩) (pre_T hK hP hD m_o fo rfl) rfl rfl hl.1 rfl (lv_room (Nat.le_of_ble_eq_true rfl)) dX5_takeOver_48 ⟨Nat.le_of_ble_eq_true rfl, Nat.le_of_ble_eq_true rfl⟩) hS hA hP (fun r_16 H locs hw hP hS => ?_)
        have h_16 : (r_16.toInt = ce.toInt / 2) := hw
        refine lv_iload_n hx hb dX5_takeOver_51 rfl (lv_at hl 1 rfl) ?_
        refine lv_aload_n hx hb dX5_takeOver_52 rfl (lv_at hl 3 rfl) ?_
        refine lv_iload_n hx hb dX5_takeOver_53 rfl (lv_at hl 4 rfl) ?_
        refine roP (va_runV (As := [.int ce]) (rest := [.int z_10, .int r_16, .ref b]) ⟨hx, hb, hml, hown, hts⟩ (t_X5_heightm l D cI cR cM _ (w := v)  hj hG hI m_o s_o fo fop (by first | assumption | omega | (subst hj1; omega)) (by first | assumption | omega | (subst hj1; omega)) (hv)) (cwV 1 hts gX5_takeOver_X5_height rfl rfl rfl (by decide +kernel) ⟨Nat.le_of_ble_eq_true rfl, Nat.le_of_ble_eq_true rfl⟩) (pre_T hK hP hD m_o fo rfl) rfl rfl hl.1 rfl (lv_room (Nat.le_of_ble_eq_true rfl)) dX5_takeOver_54 ⟨Nat.le_of_ble_eq_true rfl, Nat.le_of_ble_eq_true rfl⟩) hS hA hP (fun r_17 H locs hw hP hS => ?_)
        obtain ⟨h_17, hb_17⟩ : (r_17.toInt = v ce.toInt) ∧ (0 ≤ r_17.toInt ∧ r_17.toInt ≤ 9) := hw
        refine lv_iload hx hb dX5_takeOver_57 (lv_at hl 0 rfl) ?_
        refine call_p (va_runV (As := [.int r_16, .int z_10, .int r_17, .int z_13]) (rest := []) ⟨hx, hb, hml, hown, hts⟩ (t_X5_putm l D cI cR cM _ (w := ovW v ce.toInt)  hj hG hI m_b s_b fg_9 fg_14 (by first | assumption | omega | (subst hj1; omega)) (by subst hj1; omega) (Or.inr ⟨by subst hj1; omega, by subst hj1; omega⟩) (by first | assumption | omega | (subst hj1; omega)) (by rw [hl_15]; exact hc_15)) (cwV 4 hts gX5_takeOver_X5_put rfl rfl rfl (by decide +kernel) ⟨Nat.le_of_ble_eq_true rfl, Nat.le_of_ble_eq_true rfl⟩) (pre_T hK hP hD m_b fg_9 rfl) rfl rfl hl.1 rfl (lv_room (Nat.le_of_ble_eq_true rfl)) dX5_takeOver_59 ⟨Nat.le_of_ble_eq_true rfl, Nat.le_of_ble_eq_true rfl⟩) hD hS hA (fun u_18 H locs hw hP hD hS => ?_)
        obtain ⟨r_18, f_18⟩ := u_18
        obtain ⟨hI, hF_18, hp_18, hfx_18, h01_18⟩ : IN jn cI cR cM g L S f_18 ∧ FR S [1] f_4 f_18 ∧ ((r_18.toInt = 1 ∧ ∃ v9, insW (ovW v ce.toInt) r_16.toInt r_17.toInt = some v9 ∧ RWf cI jn S f_18 b len_9.toInt v9) ∨ (r_18.toInt = 0 ∧ insW (ovW v ce.toInt) r_16.toInt r_17.toInt = none)) ∧ (FX S (fun a9 => a9 = b) [] f_4 f_18) ∧ (r_18.toInt = 0 ∨ r_18.toInt = 1) := hw
        have hP : va_P D vwCl (va_pl L f_18) H := hP
        have hD : va_D A (va_pl L f_18) := hD
        have hF := FR_tr hF hF_18 (by decide)
        have hFX := FX_tr hFX hfx_18 (fun _ h9 => h9) (by decide)
        have fb_19 : f_18 o = .inr (5, [.int (nI jn), .int (nI (2 * jn)), .ref o_p, .int o_l]) := FR_at hF_18 s_o (show (0 : Nat) ∉ ([1] : List Nat) by decide) fo
        have fb_20 : f_18 o_p = .inl (cI, o_n, .inl o_c) := (hfx_18 o_p (by rw [own_1 s_o_p]; exact hne) (by rw [s_o_p]; exact (show (1 : Nat) ∉ ([] : List Nat) by decide))).trans fop
        have fb_21 : f_18 b = .inr (5, [.int (nI jn), .int (nI (2 * jn)), .ref b_p, .int len_9]) := FR_at hF_18 s_b (show (0 : Nat) ∉ ([1] : List Nat) by decide) fg_9
        refine lv_pop hx hb dX5_takeOver_62 rfl ?_
        obtain ⟨z_22, q_22, e_22⟩ := i_inc (a := ce.toInt) (1) (rfl) (by decide) (by subst hj1; omega) (by subst hj1; omega)
        refine lv_iinc (v := z_22) (lv' := [(2, .int z_22), (4, .int z_13), (3, .int z_10), (0, .ref b), (1, .ref o)]) hx hb dX5_takeOver_63 hl (k := 4) rfl q_22 (by decide) rfl (fun ls hl => ?_)
        refine lv_goto (tgt := 10) hx hb dX5_takeOver_66 (by decide) ?_
        exact ih10 z_22 f_18 _ _ _ (by subst hj1; omega) hI hF (by first | assumption | omega | (subst hj1; omega)) (by
          obtain ⟨u9, h4, h5⟩ := ov_s (w := v) (k := ce.toInt) (by subst hj1; omega) (fun i9 i0 i1 => (RC_w hv k_o (by subst hj1; omega) i0 (by subst hj1; omega)).1) (fun q9 => by
            have := hsr (ce.toInt / 2) (by subst hj1; omega) (by subst hj1; omega)
            unfold Srt at this
            rw [show 2 * (ce.toInt / 2) + 1 = ce.toInt by omega, show 2 * (ce.toInt / 2) = ce.toInt - 1 by omega] at this
            exact this.1)
          rw [h_16, h_17] at hp_18
          rcases hp_18 with ⟨h6, v9, h7, h8⟩ | ⟨h6, h7⟩
          · rw [h4] at h7
            cases h7
            rw [hl_15] at h8
            rw [show z_22.toInt = ce.toInt + 1 by omega]
            exact RWf_c h8 (fun i9 i0 i1 => h5 i9 i0)
          · rw [h4] at h7; cases h7) (fb_19) (fb_20) (by first | assumption | omega | (subst hj1; omega)) hP hD hS (lv_sub hl [3, 4, 0] rfl)
  have hz_23 : (0 : Int32).toInt = 0 := by decide
  exact loop10 ((200 - (0 : Int32).toInt).toNat + 1) (0 : Int32) f_1 _ _ _ (by subst hj1; omega) hI hF (by first | assumption | omega | (subst hj1; omega)) (RWf_c hp_1 (fun i9 i0 i1 => by unfold ovW; rw [if_neg (by rw [show (0 : Int32).toInt = 0 from rfl]; omega)])) (fb_2) (fb_3) (by first | assumption | omega | (subst hj1; omega)) hP hD hS (lv_sub hl [1, 2, 0] rfl)
set_option maxRecDepth 100000 in
set_option maxHeartbeats 4000000 in
theorem t_X5_takeDualm (l : Launch) (D : va_G) (cI cR cM : ClassId) (sz : Nat) {jn : Nat} {g : Nat → Nat} {L : List Nat} {S : Sg} {f : Nat → va_E} {b b_p b_n : Nat} {b_l : Int32} {b_c : Nat → Int32} {o o_p o_n : Nat} {o_l : Int32} {o_c : Nat → Int32} {v : Int → Int} (hj : 1 ≤ jn ∧ jn ≤ 3) (hG : SG g L S) (hI : IN jn cI cR cM g L S f) (m_b : b ∈ L) (s_b : S b = (0, b_p, b_n)) (f_b : f b = .inr (5, [.int (nI jn), .int (nI (2 * jn)), .ref b_p, .int b_l])) (f_b_p : f b_p = .inl (cI, b_n, .inl b_c)) (m_o : o ∈ L) (s_o : S o = (0, o_p, o_n)) (f_o : f o = .inr (5, [.int (nI jn), .int (nI (2 * jn)), .ref o_p, .int o_l])) (f_o_p : f o_p = .inl (cI, o_n, .inl o_c)) (hj1 : jn = 1) (hne : o ≠ b) (hv : RC o_c v o_l.toInt) (hcap : 2 * o_l.toInt ≤ (b_n : Int)) (hpos : 1 ≤ o_l.toInt) : Met l yX5_takeDual wsX5_takeDual ({ frames := 2, cells := 0, slots := 0, locals := 44 }) (P0 D cI cR cM [.ref b, .ref o] sz (va_pl L f)) (QG (S := Int32 × (Nat → va_E)) (fun u => some (.int u.1)) (fun u => va_pl L u.2) (fun u => IN jn cI cR cM g L S u.2 ∧ FR S [0, 1] f u.2 ∧ ((u.1.toInt = 1 ∧ plW v 0 o_l.toInt ∧ RWf cI jn S u.2 b o_l.toInt (fun j => if j % 2 = 1 then 0 else 9 - v (2 * ((-(j / 2)) % o_l.toInt)))) ∨ (u.1.toInt = 0 ∧ ¬ plW v 0 o_l.toInt)) ∧ (FX S (fun a9 => a9 = b) [] f u.2) ∧ (u.1.toInt = 0 ∨ u.1.toInt = 1)) D (va_A (va_pl L f) sz)) 0 0 (va_A (va_pl L f) sz) := by
  refine go (cc := cX5_takeDual) (maxL := 3) (ret := (some .boolean)) (by decide +kernel) rfl (Nat.le_of_ble_eq_true rfl) ?_
  intro p e s m below meth c ls args Q hQ hsz hx hb hr hml hts hown hlocks hnm hP hK hD hl
  subst hsz
  have hD := hD.self (sz := s.heap.size)
  generalize hAe : va_A (va_pl L f) s.heap.size = A at hD hQ
  have hA : ∀ q, s.heap.size ≤ q → A q := fun q h => by rw [← hAe]; exact Or.inr h
  have hS : va_S A s.heap s.heap [] := va_S.rf
  have hFX : FX S (fun a9 => a9 = b) [] f f := FX_rf
  have hF : FR S [0, 1] f f := FR_rf
  have hl : lv_has ls 3 [(0, .ref b), (1, .ref o)] := hl
  obtain ⟨v1_b, v2_b, v3_b, m_b_p, s_b_p⟩ := iv_0 hI m_b s_b f_b
  obtain ⟨w1_b, w2_b, w3_b, w4_b, w5_b⟩ := lenw hj v1_b v2_b v3_b
  have k_b := iv_1 hI m_b_p s_b_p f_b_p
  obtain ⟨v1_o, v2_o, v3_o, m_o_p, s_o_p⟩ := iv_0 hI m_o s_o f_o
  obtain ⟨w1_o, w2_o, w3_o, w4_o, w5_o⟩ := lenw hj v1_o v2_o v3_o
  have k_o := iv_1 hI m_o_p s_o_p f_o_p
  refine lv_aload_n hx hb dX5_takeDual_0 rfl (lv_at hl 1 rfl) ?_
  refine roP (va_runV (As := []) (rest := []) ⟨hx, hb, hml, hown, hts⟩ (t_X5_isPlainm l D cI cR cM _ (w := v)  hj hG hI m_o s_o f_o f_o_p (by first | assumption | omega | (subst hj1; omega)) (hv)) (cwV 0 hts gX5_takeDual_X5_isPlain rfl rfl rfl (by decide +kernel) ⟨Nat.le_of_ble_eq_true rfl, Nat.le_of_ble_eq_true rfl⟩) (pre_T hK hP hD m_o f_o rfl) rfl rfl hl.1 rfl (lv_room (Nat.le_of_ble_eq_true rfl)) dX5_takeDual_1 ⟨Nat.le_of_ble_eq_true rfl, Nat.le_of_ble_eq_true rfl⟩) hS hA hP (fun r_1 H locs hw hP hS => ?_)
  obtain ⟨h_1, h01_1⟩ : ((r_1.toInt = 1 ∧ plW v 0 o_l.toInt) ∨ (r_1.toInt = 0 ∧ ¬ plW v 0 o_l.toInt)) ∧ (r_1.toInt = 0 ∨ r_1.toInt = 1) := hw
  refine a_if_ne (u := r_1.toInt) (tgt := 9) hx hb dX5_takeDual_4 (by decide) (rfl) (fun c_2 => ?_) (fun c_2 => ?_)
  · refine lv_aload_n hx hb dX5_takeDual_9 rfl (lv_at hl 0 rfl) ?_
    refine lv_aload_n hx hb dX5_takeDual_10 rfl (lv_at hl 1 rfl) ?_
    refine t_get (D := D) (L := L) (f := f) (ci := 5) (v := .int o_l) (C := RX5) (T := TX5) (N := 4) hx hb hts (by decide +kernel) hown hK.1 hP m_o f_o rfl 3 (by decide) (hts (.fieldLink RX5 28 "JugglingHall$Row" "length" "I") (by decide +kernel)) (fun _ h9 => h9) rfl dX5_takeDual_11 ?_
    refine call_p (va_runV (As := [.int o_l]) (rest := []) ⟨hx, hb, hml, hown, hts⟩ (t_X5_resetm l D cI cR cM _   hj hG hI m_b s_b f_b f_b_p (by first | assumption | omega | (subst hj1; omega)) (by first | assumption | omega | (subst hj1; omega))) (cwV 1 hts gX5_takeDual_X5_reset rfl rfl rfl (by decide +kernel) ⟨Nat.le_of_ble_eq_true rfl, Nat.le_of_ble_eq_true rfl⟩) (pre_T hK hP hD m_b f_b rfl) rfl rfl hl.1 rfl (lv_room (Nat.le_of_ble_eq_true rfl)) dX5_takeDual_14 ⟨Nat.le_of_ble_eq_true rfl, Nat.le_of_ble_eq_true rfl⟩) hD hS hA (fun u_3 H locs hw hP hD hS => ?_)
    obtain ⟨f_3, e0_3⟩ : ∃ x, x = u_3 := ⟨_, rfl⟩
    subst e0_3
    obtain ⟨hI, hF_3, hp_3, hfx_3⟩ : IN jn cI cR cM g L S f_3 ∧ FR S [0, 1] f f_3 ∧ (RWf cI jn S f_3 b o_l.toInt (fun _ => 0)) ∧ (FX S (fun a9 => a9 = b) [] f f_3) := hw
    have hP : va_P D vwCl (va_pl L f_3) H := hP
    have hD : va_D A (va_pl L f_3) := hD
    have hF := FR_tr hF hF_3 (by decide)
    have hFX := FX_tr hFX hfx_3 (fun _ h9 => h9) (by decide)
    have fb_4 : f_3 o = .inr (5, [.int (nI jn), .int (nI (2 * jn)), .ref o_p, .int o_l]) := (hfx_3 o (by rw [own_0 s_o]; exact hne) (by rw [s_o]; exact (show (0 : Nat) ∉ ([] : List Nat) by decide))).trans f_o
    have fb_5 : f_3 o_p = .inl (cI, o_n, .inl o_c) := (hfx_3 o_p (by rw [own_1 s_o_p]; exact hne) (by rw [s_o_p]; exact (show (1 : Nat) ∉ ([] : List Nat) by decide))).trans f_o_p
    refine lv_iconst (v := 0) hx hb dX5_takeDual_17 (by decide) ?_
    refine lv_istore_n (lv' := [(2, .int 0), (0, .ref b), (1, .ref o)]) hx hb dX5_takeDual_18 rfl hl (by decide) rfl (fun ls hl => ?_)
    have loop19 : ∀ (ddloop19 : Nat) (be : Int32) (f_6 : Nat → va_E) (H : Heap) (locs : List Loc) (ls : Array Slot), (200 - be.toInt).toNat < ddloop19 → IN jn cI cR cM g L S f_6 → FR S [0, 1] f f_6 → (0 ≤ be.toInt ∧ be.toInt ≤ o_l.toInt) → (RWf cI jn S f_6 b o_l.toInt (duW v o_l.toInt be.toInt)) → (f_6 o = .inr (5, [.int (nI jn), .int (nI (2 * jn)), .ref o_p, .int o_l])) → (f_6 o_p = .inl (cI, o_n, .inl o_c)) → (FX S (fun a9 => a9 = b) [] f f_6) → va_P D vwCl (va_pl L f_6) H → va_D A (va_pl L f_6) → va_S A s.heap H locs → lv_has ls 3 [(0, .ref b), (1, .ref o), (2, .int be)] → W p l e ({ frames := 2, cells := 0, slots := 0, locals := 44 }) s m args below meth c H locs (0) (0) Q (F0 m 19 ls []) := by
      intro ddloop19
      induction ddloop19 with
      | zero =>
        intro be f_6 H locs ls hdd
        exact absurd hdd (Nat.not_lt_zero _)
      | succ ddloop19 ih19 =>
        intro be f_6 H locs ls hdd hI hF hi hRW fo fop hFX hP hD hS hl
        have hk9 := hi
        refine lv_iload_n hx hb dX5_takeDual_19 rfl (lv_at hl 2 rfl) ?_
        refine lv_aload_n hx hb dX5_takeDual_20 rfl (lv_at hl 1 rfl) ?_
        refine t_get (D := D) (L := L) (f := f_6) (ci := 5) (v := .int o_l) (C := RX5) (T := TX5) (N := 4) hx hb hts (by decide +kernel) hown hK.1 hP m_o fo rfl 3 (by decide) (hts (.fieldLink RX5 28 "JugglingHall$Row" "length" "I") (by decide +kernel)) (fun _ h9 => h9) rfl dX5_takeDual_21 ?_
        refine a_icmp_ge (u := be.toInt) (v := o_l.toInt) (tgt := 56) hx hb dX5_takeDual_24 (by decide) (rfl) (rfl) (fun c_7 => ?_) (fun c_7 => ?_)
        · refine lv_iconst (v := 1) hx hb dX5_takeDual_56 (by decide) ?_
          have hz_8 : (1 : Int32).toInt = 1 := by decide
          exact g_zret ((1 : Int32), f_6) hx hb hr hlocks hS (by first | exact Or.inl rfl | exact Or.inr rfl) rfl (⟨hI, hF, show ((1 : Int32).toInt = 1 ∧ plW v 0 o_l.toInt ∧ RWf cI jn S f_6 b o_l.toInt (fun j => if j % 2 = 1 then 0 else 9 - v (2 * ((-(j / 2)) % o_l.toInt)))) ∨ ((1 : Int32).toInt = 0 ∧ ¬ plW v 0 o_l.toInt) from (Or.inl ⟨rfl, (h_1.resolve_right (fun q9 => by have := q9.1; omega)).2, RWf_c hRW (fun i9 i0 i1 => by
            unfold duW
            have := Int.emod_lt_of_pos (-(i9 / 2)) (show 0 < o_l.toInt by omega)
            by_cases q9 : i9 % 2 = 1
            · rw [if_pos q9]; show (0 : Int) = (if i9 % 2 = 1 then (0 : Int) else _); rw [if_pos q9]
            · rw [if_neg q9, if_pos (by subst hj1; omega)]; show _ = (if i9 % 2 = 1 then (0 : Int) else _); rw [if_neg q9])⟩), show FX S (fun a9 => a9 = b) [] f f_6 from (by first | assumption | omega | (subst hj1; omega)), show (1 : Int32).toInt = 0 ∨ (1 : Int32).toInt = 1 from (by first | assumption | omega | (subst hj1; omega))⟩) hP hD hQ (Nat.le_of_ble_eq_true rfl) (Nat.le_of_ble_eq_true rfl) dX5_takeDual_57
        · refine lv_aload_n hx hb dX5_takeDual_27 rfl (lv_at hl 0 rfl) ?_
          refine lv_aload_n hx hb dX5_takeDual_28 rfl (lv_at hl 0 rfl) ?_
          refine lv_iload_n hx hb dX5_takeDual_29 rfl (lv_at hl 2 rfl) ?_
          refine a_ineg (u := be.toInt) hx hb dX5_takeDual_30 (rfl) (by subst hj1; omega) (fun z_9 e_9 => ?_)
          obtain ⟨len_10, fg_10, v1_10, v2_10, v3_10, mp_10, sp_10⟩ := op_0 hI m_b s_b
          obtain ⟨w1_10, w2_10, w3_10, w4_10, w5_10⟩ := lenw hj v1_10 v2_10 v3_10
          obtain ⟨c_11, fg_11, iv0_11⟩ := op_1 hI m_b_p s_b_p
          obtain ⟨hl_12, hc_12⟩ := RWf_at hRW s_b fg_10 fg_11
          refine roP (va_runV (As := [.int z_9]) (rest := [.ref b]) ⟨hx, hb, hml, hown, hts⟩ (t_X5_beatInRoundm l D cI cR cM _   hj hG hI m_b s_b fg_10 fg_11 (by first | assumption | omega | (subst hj1; omega)) (by subst hj1; omega)) (cwV 1 hts gX5_takeDual_X5_beatInRound rfl rfl rfl (by decide +kernel) ⟨Nat.le_of_ble_eq_true rfl, Nat.le_of_ble_eq_true rfl⟩) (pre_T hK hP hD m_b fg_10 rfl) rfl rfl hl.1 rfl (lv_room (Nat.le_of_ble_eq_true rfl)) dX5_takeDual_31 ⟨Nat.le_of_ble_eq_true rfl, Nat.le_of_ble_eq_true rfl⟩) hS hA hP (fun r_13 H locs hw hP hS => ?_)
          obtain ⟨h_13, hb_13⟩ : (r_13.toInt = z_9.toInt % len_10.toInt) ∧ (0 ≤ r_13.toInt ∧ r_13.toInt < len_10.toInt) := hw
          refine lv_iconst (v := 0) hx hb dX5_takeDual_34 (by decide) ?_
          refine lv_bipush (v := 9) hx hb dX5_takeDual_35 (by decide) ?_
          refine lv_aload_n hx hb dX5_takeDual_37 rfl (lv_at hl 1 rfl) ?_
          refine lv_iload_n hx hb dX5_takeDual_38 rfl (lv_at hl 2 rfl) ?_
          refine lv_iconst (v := 2) hx hb dX5_takeDual_39 (by decide) ?_
          refine a_imul (u := be.toInt) (v := 2) hx hb dX5_takeDual_40 (rfl) (by decide) (by subst hj1; omega) (fun z_14 e_14 => ?_)
          refine roP (va_runV (As := [.int z_14]) (rest := [.int 9, .int 0, .int r_13, .ref b]) ⟨hx, hb, hml, hown, hts⟩ (t_X5_heightm l D cI cR cM _ (w := v)  hj hG hI m_o s_o fo fop (by first | assumption | omega | (subst hj1; omega)) (by first | assumption | omega | (subst hj1; omega)) (hv)) (cwV 1 hts gX5_takeDual_X5_height rfl rfl rfl (by decide +kernel) ⟨Nat.le_of_ble_eq_true rfl, Nat.le_of_ble_eq_true rfl⟩) (pre_T hK hP hD m_o fo rfl) rfl rfl hl.1 rfl (lv_room (Nat.le_of_ble_eq_true rfl)) dX5_takeDual_41 ⟨Nat.le_of_ble_eq_true rfl, Nat.le_of_ble_eq_true rfl⟩) hS hA hP (fun r_15 H locs hw hP hS => ?_)
          obtain ⟨h_15, hb_15⟩ : (r_15.toInt = v z_14.toInt) ∧ (0 ≤ r_15.toInt ∧ r_15.toInt ≤ 9) := hw
          refine a_isub (u := 9) (v := r_15.toInt) hx hb dX5_takeDual_44 (by decide) (rfl) (by subst hj1; omega) (fun z_16 e_16 => ?_)
          refine lv_iconst (v := 0) hx hb dX5_takeDual_45 (by decide) ?_
          have hht : z_16.toInt = 9 - v (2 * be.toInt) := by rw [show 2 * be.toInt = z_14.toInt by omega]; omega
          have hz_17 : (0 : Int32).toInt = 0 := by decide
          have hz_18 : (0 : Int32).toInt = 0 := by decide
          refine call_p (va_runV (As := [.int r_13, .int 0, .int z_16, .int 0]) (rest := []) ⟨hx, hb, hml, hown, hts⟩ (t_X5_putm l D cI cR cM _ (w := duW v o_l.toInt be.toInt)  hj hG hI m_b s_b fg_10 fg_11 (by first | assumption | omega | (subst hj1; omega)) (by subst hj1; omega) (Or.inr ⟨by decide, by decide⟩) (by first | assumption | omega | (subst hj1; omega)) (by rw [hl_12]; exact hc_12)) (cwV 4 hts gX5_takeDual_X5_put rfl rfl rfl (by decide +kernel) ⟨Nat.le_of_ble_eq_true rfl, Nat.le_of_ble_eq_true rfl⟩) (pre_T hK hP hD m_b fg_10 rfl) rfl rfl hl.1 rfl (lv_room (Nat.le_of_ble_eq_true rfl)) dX5_takeDual_46 ⟨Nat.le_of_ble_eq_true rfl, Nat.le_of_ble_eq_true rfl⟩) hD hS hA (fun u_19 H locs hw hP hD hS => ?_)
          obtain ⟨r_19, f_19⟩ := u_19
          obtain ⟨hI, hF_19, hp_19, hfx_19, h01_19⟩ : IN jn cI cR cM g L S f_19 ∧ FR S [1] f_6 f_19 ∧ ((r_19.toInt = 1 ∧ ∃ v9, insW (duW v o_l.toInt be.toInt) r_13.toInt z_16.toInt = some v9 ∧ RWf cI jn S f_19 b len_10.toInt v9) ∨ (r_19.toInt = 0 ∧ insW (duW v o_l.toInt be.toInt) r_13.toInt z_16.toInt = none)) ∧ (FX S (fun a9 => a9 = b) [] f_6 f_19) ∧ (r_19.toInt = 0 ∨ r_19.toInt = 1) := hw
          have hP : va_P D vwCl (va_pl L f_19) H := hP
          have hD : va_D A (va_pl L f_19) := hD
          have hF := FR_tr hF hF_19 (by decide)
          have hFX := FX_tr hFX hfx_19 (fun _ h9 => h9) (by decide)
          have fb_20 : f_19 o = .inr (5, [.int (nI jn), .int (nI (2 * jn)), .ref o_p, .int o_l]) := FR_at hF_19 s_o (show (0 : Nat) ∉ ([1] : List Nat) by decide) fo
          have fb_21 : f_19 o_p = .inl (cI, o_n, .inl o_c) := (hfx_19 o_p (by rw [own_1 s_o_p]; exact hne) (by rw [s_o_p]; exact (show (1 : Nat) ∉ ([] : List Nat) by decide))).trans fop
          have fb_22 : f_19 b = .inr (5, [.int (nI jn), .int (nI (2 * jn)), .ref b_p, .int len_10]) := FR_at hF_19 s_b (show (0 : Nat) ∉ ([1] : List Nat) by decide) fg_10
          refine lv_pop hx hb dX5_takeDual_49 rfl ?_
          obtain ⟨z_23, q_23, e_23⟩ := i_inc (a := be.toInt) (1) (rfl) (by decide) (by subst hj1; omega) (by subst hj1; omega)
          refine lv_iinc (v := z_23) (lv' := [(2, .int z_23), (0, .ref b), (1, .ref o)]) hx hb dX5_takeDual_50 hl (k := 2) rfl q_23 (by decide) rfl (fun ls hl => ?_)
          refine lv_goto (tgt := 19) hx hb dX5_takeDual_53 (by decide) ?_
          exact ih19 z_23 f_19 _ _ _ (by subst hj1; omega) hI hF (by first | assumption | omega | (subst hj1; omega)) (by
            obtain ⟨u9, h4, h5⟩ := du_s (w := v) (n := o_l.toInt) (k := be.toInt) (by subst hj1; omega) (by subst hj1; omega) (by subst hj1; omega)
            have h3 : z_9.toInt % len_10.toInt = (-be.toInt) % o_l.toInt := by rw [hl_12, show z_9.toInt = -be.toInt by omega]
            rcases hp_19 with ⟨h6, v9, h7, h8⟩ | ⟨h6, h7⟩
            · rw [h_13, h3, show z_16.toInt = 9 - v (2 * be.toInt) by omega, h4] at h7
              cases h7
              rw [hl_12] at h8
              rw [show z_23.toInt = be.toInt + 1 by omega]
              exact RWf_c h8 (fun i9 i0 i1 => h5 i9 i0 i1)
            · rw [h_13, h3, show z_16.toInt = 9 - v (2 * be.toInt) by omega, h4] at h7
              cases h7) (fb_20) (fb_21) (by first | assumption | omega | (subst hj1; omega)) hP hD hS (lv_sub hl [1, 2, 0] rfl)
    have hz_24 : (0 : Int32).toInt = 0 := by decide
    exact loop19 ((200 - (0 : Int32).toInt).toNat + 1) (0 : Int32) f_3 _ _ _ (by subst hj1; omega) hI hF (by first | assumption | omega | (subst hj1; omega)) (RWf_c hp_3 (fun i9 i0 i1 => by
      unfold duW
      by_cases q9 : i9 % 2 = 1
      · rw [if_pos q9]
      · have := Int.emod_nonneg (-(i9 / 2)) (show o_l.toInt ≠ 0 by omega)
        rw [if_neg q9, if_neg (by rw [show (0 : Int32).toInt = 0 from rfl]; omega)])) (fb_4) (fb_5) (by first | assumption | omega | (subst hj1; omega)) hP hD hS (lv_sub hl [1, 2, 0] rfl)
  · refine lv_iconst (v := 0) hx hb dX5_takeDual_7 (by decide) ?_
    have hz_25 : (0 : Int32).toInt = 0 := by decide
    exact g_zret ((0 : Int32), f) hx hb hr hlocks hS (by first | exact Or.inl rfl | exact Or.inr rfl) rfl (⟨hI, hF, show ((0 : Int32).toInt = 1 ∧ plW v 0 o_l.toInt ∧ RWf cI jn S f b o_l.toInt (fun j => if j % 2 = 1 then 0 else 9 - v (2 * ((-(j / 2)) % o_l.toInt)))) ∨ ((0 : Int32).toInt = 0 ∧ ¬ plW v 0 o_l.toInt) from (Or.inr ⟨rfl, (h_1.resolve_left (fun q9 => by have := q9.1; omega)).2⟩), show FX S (fun a9 => a9 = b) [] f f from (by first | assumption | omega | (subst hj1; omega)), show (0 : Int32).toInt = 0 ∨ (0 : Int32).toInt = 1 from (by first | assumption | omega | (subst hj1; omega))⟩) hP hD hQ (Nat.le_of_ble_eq_true rfl) (Nat.le_of_ble_eq_true rfl) dX5_takeDual_8
set_option maxRecDepth 100000 in
set_option maxHeartbeats 4000000 in
theorem t_X5_takeTurnedm (l : Launch) (D : va_G) (cI cR cM : ClassId) (sz : Nat) {jn : Nat} {g : Nat → Nat} {L : List Nat} {S : Sg} {f : Nat → va_E} {b b_p b_n : Nat} {b_l : Int32} {b_c : Nat → Int32} {o o_p o_n : Nat} {o_l : Int32} {o_c : Nat → Int32} {x : Int32} {v : Int → Int} (hj : 1 ≤ jn ∧ jn ≤ 3) (hG : SG g L S) (hI : IN jn cI cR cM g L S f) (m_b : b ∈ L) (s_b : S b = (0, b_p, b_n)) (f_b : f b = .inr (5, [.int (nI jn), .int (nI (2 * jn)), .ref b_p, .int b_l])) (f_b_p : f b_p = .inl (cI, b_n, .inl b_c)) (m_o : o ∈ L) (s_o : S o = (0, o_p, o_n)) (f_o : f o = .inr (5, [.int (nI jn), .int (nI (2 * jn)), .ref o_p, .int o_l])) (f_o_p : f o_p = .inl (cI, o_n, .inl o_c)) (hj1 : jn = 1) (hne : o ≠ b) (hv : RC o_c v o_l.toInt) (hcap : 2 * o_l.toInt ≤ (b_n : Int)) (hpos : 1 ≤ o_l.toInt) : Met l yX5_takeTurned wsX5_takeTurned ({ frames := 2, cells := 0, slots := 0, locals := 88 }) (P0 D cI cR cM [.ref b, .ref o, .int x] sz (va_pl L f)) (QG (S := Nat → va_E) (fun u => none) (fun u => va_pl L u) (fun u => IN jn cI cR cM g L S u ∧ FR S [0, 1] f u ∧ (RWf cI jn S u b o_l.toInt (fun j => v (2 * ((j / 2 + x.toInt) % o_l.toInt) + j % 2))) ∧ (FX S (fun a9 => a9 = b) [] f u)) D (va_A (va_pl L f) sz)) 0 0 (va_A (va_pl L f) sz) := by
  refine go (cc := cX5_takeTurned) (maxL := 4) (ret := none) (by decide +kernel) rfl (Nat.le_of_ble_eq_true rfl) ?_
  intro p e s m below meth c ls args Q hQ hsz hx hb hr hml hts hown hlocks hnm hP hK hD hl
  subst hsz
  have hD := hD.self (sz := s.heap.size)
  generalize hAe : va_A (va_pl L f) s.heap.size = A at hD hQ
  have hA : ∀ q, s.heap.size ≤ q → A q := fun q h => by rw [← hAe]; exact Or.inr h
  have hS : va_S A s.heap s.heap [] := va_S.rf
  have hFX : FX S (fun a9 => a9 = b) [] f f := FX_rf
  have hF : FR S [0, 1] f f := FR_rf
  have hl : lv_has ls 4 [(0, .ref b), (1, .ref o), (2, .int x)] := hl
  obtain ⟨v1_b, v2_b, v3_b, m_b_p, s_b_p⟩ := iv_0 hI m_b s_b f_b
  obtain ⟨w1_b, w2_b, w3_b, w4_b, w5_b⟩ := lenw hj v1_b v2_b v3_b
  have k_b := iv_1 hI m_b_p s_b_p f_b_p
  obtain ⟨v1_o, v2_o, v3_o, m_o_p, s_o_p⟩ := iv_0 hI m_o s_o f_o
  obtain ⟨w1_o, w2_o, w3_o, w4_o, w5_o⟩ := lenw hj v1_o v2_o v3_o
  have k_o := iv_1 hI m_o_p s_o_p f_o_p
  refine lv_aload_n hx hb dX5_takeTurned_0 rfl (lv_at hl 1 rfl) ?_
  refine lv_iload_n hx hb dX5_takeTurned_1 rfl (lv_at hl 2 rfl) ?_
  refine roP (va_runV (As := [.int x]) (rest := []) ⟨hx, hb, hml, hown, hts⟩ (t_X5_beatInRoundm l D cI cR cM _   hj hG hI m_o s_o f_o f_o_p (by first | assumption | omega | (subst hj1; omega)) (by subst hj1; omega)) (cwV 1 hts gX5_takeTurned_X5_beatInRound rfl rfl rfl (by decide +kernel) ⟨Nat.le_of_ble_eq_true rfl, Nat.le_of_ble_eq_true rfl⟩) (pre_T hK hP hD m_o f_o rfl) rfl rfl hl.1 rfl (lv_room (Nat.le_of_ble_eq_true rfl)) dX5_takeTurned_2 ⟨Nat.le_of_ble_eq_true rfl, Nat.le_of_ble_eq_true rfl⟩) hS hA hP (fun r_1 H locs hw hP hS => ?_)
  obtain ⟨h_1, hb_1⟩ : (r_1.toInt = x.toInt % o_l.toInt) ∧ (0 ≤ r_1.toInt ∧ r_1.toInt < o_l.toInt) := hw
  refine lv_istore_n (lv' := [(3, .int r_1), (0, .ref b), (1, .ref o), (2, .int x)]) hx hb dX5_takeTurned_5 rfl hl (by decide) rfl (fun ls hl => ?_)
  refine lv_aload_n hx hb dX5_takeTurned_6 rfl (lv_at hl 1 rfl) ?_
  refine lv_iconst (v := 0) hx hb dX5_takeTurned_7 (by decide) ?_
  have hz_3 : (0 : Int32).toInt = 0 := by decide
  refine t_put (D := D) (L := L) (f := f) (ci := 5) (v := .int 0) (ty := .int) (C := RX5) (T := TX5) (N := 4) hx hb hts (by decide +kernel) tyX5 tyX5_ok nmX5 hown hK.1 hP hD hS m_b f_b rfl 3 (by decide) (hts (.fieldLink RX5 28 "JugglingHall$Row" "length" "I") (by decide +kernel)) (fun _ h9 => h9) rfl (by decide +kernel) rfl rfl (Nat.le_of_ble_eq_true rfl) dX5_takeTurned_8 (fun f_2 H locs e9_2 o_2 hP hD hS => ?_)
  have fa_2 : f_2 b = .inr (5, [.int (nI jn), .int (nI (2 * jn)), .ref b_p, .int 0]) := e9_2
  have hI := IN_set (e := .inr (5, [.int (nI jn), .int (nI (2 * jn)), .ref b_p, .int 0])) hI s_b (mk_0 (by first | assumption | omega | (subst hj1; omega)) (by rw [show (0 : Int32).toInt = 0 from rfl, Int.zero_mul]; omega) (by first | assumption | omega | (subst hj1; omega)) (by first | assumption | omega | (subst hj1; omega)) (by first | assumption | omega | (subst hj1; omega))) fa_2 o_2
  have hF := FR_set hF s_b (show (0 : Nat) ∈ ([0, 1] : List Nat) by decide) o_2
  have hFX := FX_set0 hFX s_b (rfl) o_2
  have fb_4 : f_2 b_p = .inl (cI, b_n, .inl b_c) := f_at o_2 (S_ne s_b_p s_b (show (1 : Nat) ≠ 0 by decide)) f_b_p
  have fb_5 : f_2 o = .inr (5, [.int (nI jn), .int (nI (2 * jn)), .ref o_p, .int o_l]) := f_at o_2 (hne) f_o
  have fb_6 : f_2 o_p = .inl (cI, o_n, .inl o_c) := f_at o_2 (S_ne s_o_p s_b (show (1 : Nat) ≠ 0 by decide)) f_o_p
  refine lv_aload_n hx hb dX5_takeTurned_11 rfl (lv_at hl 1 rfl) ?_
  refine lv_aload_n hx hb dX5_takeTurned_12 rfl (lv_at hl 2 rfl) ?_
  refine lv_iload_n hx hb dX5_takeTurned_13 rfl (lv_at hl 0 rfl) ?_
  refine lv_aload_n hx hb dX5_takeTurned_14 rfl (lv_at hl 2 rfl) ?_
  refine t_get (D := D) (L := L) (f := f_2) (ci := 5) (v := .int o_l) (C := RX5) (T := TX5) (N := 4) hx hb hts (by decide +kernel) hown hK.1 hP m_o fb_5 rfl 3 (by decide) (hts (.fieldLink RX5 28 "JugglingHall$Row" "length" "I") (by decide +kernel)) (fun _ h9 => h9) rfl dX5_takeTurned_15 ?_
  have hz_7 : (0 : Int32).toInt = 0 := by decide
  refine call_p (va_runV (As := [.ref o, .int r_1, .int o_l]) (rest := []) ⟨hx, hb, hml, hown, hts⟩ (t_X5_appendm l D cI cR cM _ (w := fun _ => 0) (v := v)  hj hG hI m_b s_b fa_2 fb_4 m_o s_o fb_5 fb_6 (by first | assumption | omega | (subst hj1; omega)) (by subst hj1; omega) (fun i9 h8 h9 => absurd h9 (by rw [show (0 : Int32).toInt = 0 from rfl]; omega)) (hv)) (cwV 3 hts gX5_takeTurned_X5_append rfl rfl rfl (by decide +kernel) ⟨Nat.le_of_ble_eq_true rfl, Nat.le_of_ble_eq_true rfl⟩) (pre_T hK hP hD m_b fa_2 rfl) rfl rfl hl.1 rfl (lv_room (Nat.le_of_ble_eq_true rfl)) dX5_takeTurned_18 ⟨Nat.le_of_ble_eq_true rfl, Nat.le_of_ble_eq_true rfl⟩) hD hS hA (fun u_8 H locs hw hP hD hS => ?_)
  obtain ⟨r_8, f_8⟩ := u_8
  obtain ⟨hI, hF_8, hp_8, hfx_8, h01_8⟩ : IN jn cI cR cM g L S f_8 ∧ FR S [0, 1] f_2 f_8 ∧ ((r_8.toInt = 1 ∧ 2 * ((0 : Int32).toInt + (o_l.toInt - r_1.toInt)) ≤ (b_n : Int) ∧ RWf cI jn S f_8 b ((0 : Int32).toInt + (o_l.toInt - r_1.toInt)) (fun j => if j < 2 * (0 : Int32).toInt then (fun _ => (0 : Int)) j else v (2 * r_1.toInt + (j - 2 * (0 : Int32).toInt)))) ∨ (r_8.toInt = 0 ∧ (b_n : Int) < 2 * ((0 : Int32).toInt + (o_l.toInt - r_1.toInt)))) ∧ (FX S (fun a9 => a9 = b) [] f_2 f_8) ∧ (r_8.toInt = 0 ∨ r_8.toInt = 1) := hw
  have hP : va_P D vwCl (va_pl L f_8) H := hP
  have hD : va_D A (va_pl L f_8) := hD
  have hF := FR_tr hF hF_8 (by decide)
  have hFX := FX_tr hFX hfx_8 (fun _ h9 => h9) (by decide)
  have fb_9 : f_8 o = .inr (5, [.int (nI jn), .int (nI (2 * jn)), .ref o_p, .int o_l]) := (hfx_8 o (by rw [own_0 s_o]; exact hne) (by rw [s_o]; exact (show (0 : Nat) ∉ ([] : List Nat) by decide))).trans fb_5
  have fb_10 : f_8 o_p = .inl (cI, o_n, .inl o_c) := (hfx_8 o_p (by rw [own_1 s_o_p]; exact hne) (by rw [s_o_p]; exact (show (1 : Nat) ∉ ([] : List Nat) by decide))).trans fb_6
  refine lv_pop hx hb dX5_takeTurned_21 rfl ?_
  refine lv_aload_n hx hb dX5_takeTurned_22 rfl (lv_at hl 1 rfl) ?_
  refine lv_aload_n hx hb dX5_takeTurned_23 rfl (lv_at hl 2 rfl) ?_
  refine lv_iconst (v := 0) hx hb dX5_takeTurned_24 (by decide) ?_
  refine lv_iload_n hx hb dX5_takeTurned_25 rfl (lv_at hl 0 rfl) ?_
  have hr9 := (hp_8.resolve_right (fun q9 => by have h7 := q9.2; rw [show (0 : Int32).toInt = 0 from rfl] at h7; omega)).2.2
  obtain ⟨len_11, fg_11, v1_11, v2_11, v3_11, mp_11, sp_11⟩ := op_0 hI m_b s_b
  obtain ⟨w1_11, w2_11, w3_11, w4_11, w5_11⟩ := lenw hj v1_11 v2_11 v3_11
  obtain ⟨c_12, fg_12, iv0_12⟩ := op_1 hI m_b_p s_b_p
  obtain ⟨hl_13, hc_13⟩ := RWf_at hr9 s_b fg_11 fg_12
  have hz_14 : (0 : Int32).toInt = 0 := by decide
  refine call_p (va_runV (As := [.ref o, .int 0, .int r_1]) (rest := []) ⟨hx, hb, hml, hown, hts⟩ (t_X5_appendm l D cI cR cM _ (w := (fun j => if j < 2 * (0 : Int32).toInt then (fun _ => (0 : Int)) j else v (2 * r_1.toInt + (j - 2 * (0 : Int32).toInt)))) (v := v)  hj hG hI m_b s_b fg_11 fg_12 m_o s_o fb_9 fb_10 (by first | assumption | omega | (subst hj1; omega)) (by rw [show (0 : Int32).toInt = 0 from rfl]; omega) (by rw [hl_13]; exact hc_13) (hv)) (cwV 3 hts gX5_takeTurned_X5_append rfl rfl rfl (by decide +kernel) ⟨Nat.le_of_ble_eq_true rfl, Nat.le_of_ble_eq_true rfl⟩) (pre_T hK hP hD m_b fg_11 rfl) rfl rfl hl.1 rfl (lv_room (Nat.le_of_ble_eq_true rfl)) dX5_takeTurned_26 ⟨Nat.le_of_ble_eq_true rfl, Nat.le_of_ble_eq_true rfl⟩) hD hS hA (fun u_15 H locs hw hP hD hS => ?_)
  obtain ⟨r_15, f_15⟩ := u_15
  obtain ⟨hI, hF_15, hp_15, hfx_15, h01_15⟩ : IN jn cI cR cM g L S f_15 ∧ FR S [0, 1] f_8 f_15 ∧ ((r_15.toInt = 1 ∧ 2 * (len_11.toInt + (r_1.toInt - (0 : Int32).toInt)) ≤ (b_n : Int) ∧ RWf cI jn S f_15 b (len_11.toInt + (r_1.toInt - (0 : Int32).toInt)) (fun j => if j < 2 * len_11.toInt then (fun j => if j < 2 * (0 : Int32).toInt then (fun _ => (0 : Int)) j else v (2 * r_1.toInt + (j - 2 * (0 : Int32).toInt))) j else v (2 * (0 : Int32).toInt + (j - 2 * len_11.toInt)))) ∨ (r_15.toInt = 0 ∧ (b_n : Int) < 2 * (len_11.toInt + (r_1.toInt - (0 : Int32).toInt)))) ∧ (FX S (fun a9 => a9 = b) [] f_8 f_15) ∧ (r_15.toInt = 0 ∨ r_15.toInt = 1) := hw
  have hP : va_P D vwCl (va_pl L f_15) H := hP
  have hD : va_D A (va_pl L f_15) := hD
  have hF := FR_tr hF hF_15 (by decide)
  have hFX := FX_tr hFX hfx_15 (fun _ h9 => h9) (by decide)
  have fb_16 : f_15 o = .inr (5, [.int (nI jn), .int (nI (2 * jn)), .ref o_p, .int o_l]) := (hfx_15 o (by rw [own_0 s_o]; exact hne) (by rw [s_o]; exact (show (0 : Nat) ∉ ([] : List Nat) by decide))).trans fb_9
  have fb_17 : f_15 o_p = .inl (cI, o_n, .inl o_c) := (hfx_15 o_p (by rw [own_1 s_o_p]; exact hne) (by rw [s_o_p]; exact (show (1 : Nat) ∉ ([] : List Nat) by decide))).trans fb_10
  refine lv_pop hx hb dX5_takeTurned_29 rfl ?_
  exact g_vret f_15 hx hb hr hlocks hS rfl (⟨hI, hF, show RWf cI jn S f_15 b o_l.toInt (fun j => v (2 * ((j / 2 + x.toInt) % o_l.toInt) + j % 2)) from (by
    have h9 := (hp_15.resolve_right (fun q9 => by have h7 := q9.2; rw [hl_13, show (0 : Int32).toInt = 0 from rfl] at h7; omega)).2.2
    rw [hl_13, show (0 : Int32).toInt + (o_l.toInt - r_1.toInt) + (r_1.toInt - (0 : Int32).toInt) = o_l.toInt by rw [show (0 : Int32).toInt = 0 from rfl]; omega] at h9
    exact RWf_c h9 (fun i9 i0 i1 => tn_eq hpos h_1 rfl (by rw [show (0 : Int32).toInt = 0 from rfl]; omega) i0 i1)), show FX S (fun a9 => a9 = b) [] f f_15 from (by first | assumption | omega | (subst hj1; omega))⟩) hP hD hQ (Nat.le_of_ble_eq_true rfl) (Nat.le_of_ble_eq_true rfl) dX5_takeTurned_30
