/-- how many land on a beat more than are thrown there, of the first t places -/
def lnd (w : Int → Int) (n b : Int) : Nat → Int
  | 0 => 0
  | t + 1 => lnd w n b t + (if w (t : Int) = 0 then 0 else (if ((t : Int) / 2 + w (t : Int)) % n = b then 1 else 0) - (if (t : Int) / 2 = b then 1 else 0))
def GdW (w : Int → Int) (n : Int) : Prop := ∀ b : Int, 0 ≤ b → b < n → lnd w n b (2 * n).toNat = 0
theorem lnd_b (w : Int → Int) (n b : Int) (t : Nat) : -(t : Int) ≤ lnd w n b t ∧ lnd w n b t ≤ (t : Int) := by
  induction t with
  | zero => exact ⟨Int.le_refl _, Int.le_refl _⟩
  | succ t ih =>
    show -((t + 1 : Nat) : Int) ≤ lnd w n b t + (if w (t : Int) = 0 then 0 else (if ((t : Int) / 2 + w (t : Int)) % n = b then 1 else 0) - (if (t : Int) / 2 = b then 1 else 0)) ∧ lnd w n b t + (if w (t : Int) = 0 then 0 else (if ((t : Int) / 2 + w (t : Int)) % n = b then 1 else 0) - (if (t : Int) / 2 = b then 1 else 0)) ≤ ((t + 1 : Nat) : Int)
    by_cases e : w (t : Int) = 0
    · rw [if_pos e]; omega
    · rw [if_neg e]
      by_cases e1 : ((t : Int) / 2 + w (t : Int)) % n = b <;> by_cases e2 : (t : Int) / 2 = b
      · rw [if_pos e1, if_pos e2]; omega
      · rw [if_pos e1, if_neg e2]; omega
      · rw [if_neg e1, if_pos e2]; omega
      · rw [if_neg e1, if_neg e2]; omega
theorem lnd_s {w : Int → Int} {n b t : Int} (h : 0 ≤ t) : lnd w n b (t + 1).toNat = lnd w n b t.toNat + (if w t = 0 then 0 else (if (t / 2 + w t) % n = b then 1 else 0) - (if t / 2 = b then 1 else 0)) := by
  rw [show (t + 1).toNat = t.toNat + 1 by omega]
  show lnd w n b t.toNat + (if w ((t.toNat : Nat) : Int) = 0 then 0 else (if (((t.toNat : Nat) : Int) / 2 + w ((t.toNat : Nat) : Int)) % n = b then 1 else 0) - (if ((t.toNat : Nat) : Int) / 2 = b then 1 else 0)) = _
  rw [show ((t.toNat : Nat) : Int) = t by omega]
theorem lnd_out {w : Int → Int} {n b : Int} (t : Nat) (hn : 0 < n) (hb : n ≤ b) (ht : (t : Int) ≤ 2 * n) : lnd w n b t = 0 := by
  induction t with
  | zero => rfl
  | succ t ih =>
    have q2 := Int.emod_lt_of_pos ((t : Int) / 2 + w (t : Int)) hn
    show lnd w n b t + (if w (t : Int) = 0 then 0 else (if ((t : Int) / 2 + w (t : Int)) % n = b then 1 else 0) - (if (t : Int) / 2 = b then 1 else 0)) = 0
    rw [ih (by omega), if_neg (show ¬ ((t : Int) / 2 + w (t : Int)) % n = b by omega), if_neg (show ¬ (t : Int) / 2 = b by omega)]
    by_cases e : w (t : Int) = 0
    · rw [if_pos e]; omega
    · rw [if_neg e]; omega
/-- one throw more, as the class counts (less) -/
theorem lnd_c {w : Int → Int} {n t b p q : Int} {c c1 c2 : Nat → Int32} {x y : Int32} (ht : 0 ≤ t) (hw : w t ≠ 0) (hc : ∀ b : Int, 0 ≤ b → b < 72 → (c b.toNat).toInt = - lnd w n b t.toNat) (hp : p = t / 2) (hq : q = (t / 2 + w t) % n) (p0 : 0 ≤ p) (q0 : 0 ≤ q) (e1 : c1 = upd c p.toNat x) (hx : x.toInt = (c p.toNat).toInt + 1) (e2 : c2 = upd c1 q.toNat y) (hy : y.toInt = (c1 q.toNat).toInt - 1) (b0 : 0 ≤ b) (b1 : b < 72) : (c2 b.toNat).toInt = - lnd w n b (t + 1).toNat := by
  rw [lnd_s ht, if_neg hw]
  have h1 : (c1 b.toNat).toInt = - lnd w n b t.toNat + (if t / 2 = b then 1 else 0) := by
    by_cases e : t / 2 = b
    · rw [if_pos e, e1, show b = p by omega, pk_us, hx, hc p p0 (by omega)]
    · rw [if_neg e, e1, un_i b0 p0 (by omega), hc b b0 b1]; omega
  by_cases e : (t / 2 + w t) % n = b
  · rw [if_pos e, e2, show b.toNat = q.toNat by rw [hq, e], pk_us, hy, show q.toNat = b.toNat by rw [hq, e], h1]; omega
  · rw [if_neg e, e2, un_i b0 q0 (by omega), h1]; omega
theorem lnd_z {w : Int → Int} {n t b : Int} (ht : 0 ≤ t) (hw : w t = 0) : lnd w n b (t + 1).toNat = lnd w n b t.toNat := by
  rw [lnd_s ht, if_pos hw]; omega
/-- a state's bits -/
def stQ (w : Int → Int) (n x : Int) (m : Int) (k : Nat) : Prop := ∃ a : Int, 1 ≤ a ∧ a < m ∧ w (2 * ((x - a) % n)) = a + (k : Int)
def StM (w : Int → Int) (n x : Int) (M : Nat) : Prop := M < 512 ∧ ∀ k : Nat, k < 9 → (M.testBit k = true ↔ stQ w n x 10 k)
theorem StM_u {w : Int → Int} {n x : Int} {M N : Nat} (h : StM w n x M) (h' : StM w n x N) : M = N := by
  apply Nat.eq_of_testBit_eq
  intro k
  by_cases hk : k < 9
  · have a := h.2 k hk
    have b := h'.2 k hk
    cases e1 : M.testBit k <;> cases e2 : N.testBit k
    · rfl
    · have := a.mpr (b.mp e2); rw [e1] at this; cases this
    · have := b.mpr (a.mp e1); rw [e2] at this; cases this
    · rfl
  · rw [Nat.testBit_lt_two_pow (Nat.lt_of_lt_of_le h.1 (Nat.pow_le_pow_right (n := 2) (by decide) (show 9 ≤ k by omega))), Nat.testBit_lt_two_pow (Nat.lt_of_lt_of_le h'.1 (Nat.pow_le_pow_right (n := 2) (by decide) (show 9 ≤ k by omega)))]
theorem or_sh : ∀ k, k < 9 → ∀ M, M < 512 → nI M ||| ((1 : Int32) <<< (nI k &&& 31)) = nI (M ||| 2 ^ k) := by decide +kernel
theorem or_lt {M k : Nat} (h : M < 512) (hk : k < 9) : M ||| 2 ^ k < 512 := Nat.or_lt_two_pow (n := 9) h (Nat.pow_lt_pow_right (by decide) hk)
theorem or_tb {M k j : Nat} : (M ||| 2 ^ k).testBit j = true ↔ (M.testBit j = true ∨ j = k) := by
  rw [Nat.testBit_or, Nat.testBit_two_pow]
  by_cases e : k = j
  · simp [e]
  · simp [e, Ne.symm e]
theorem stQ_s {w : Int → Int} {n x m : Int} {k : Nat} (hm : 1 ≤ m) : stQ w n x (m + 1) k ↔ (stQ w n x m k ∨ w (2 * ((x - m) % n)) = m + (k : Int)) := by
  constructor
  · rintro ⟨a, a1, a2, a3⟩
    by_cases e : a = m
    · rw [e] at a3; exact Or.inr a3
    · exact Or.inl ⟨a, a1, by omega, a3⟩
  · rintro (⟨a, a1, a2, a3⟩ | h)
    · exact ⟨a, a1, by omega, a3⟩
    · exact ⟨m, hm, by omega, h⟩
theorem arr_in {cI : ClassId} {n a : Nat} {f : Nat → va_E} {c d : Nat → Int32} (h : f a = .inl (cI, n, .inl c)) (h1 : f a = .inl (cI, n, .inl d)) : d = c := by
  rw [h1] at h
  cases h
  rfl
set_option maxRecDepth 100000 in
set_option maxHeartbeats 4000000 in
theorem t_X5_isThrowm (l : Launch) (D : va_G) (cI cR cM : ClassId) (sz : Nat) {jn : Nat} {g : Nat → Nat} {L : List Nat} {S : Sg} {f : Nat → va_E} {b b_p b_n : Nat} {b_l : Int32} {b_c : Nat → Int32} {x : Int32} {w : Int → Int} (hj : 1 ≤ jn ∧ jn ≤ 3) (hG : SG g L S) (hI : IN jn cI cR cM g L S f) (m_b : b ∈ L) (s_b : S b = (0, b_p, b_n)) (f_b : f b = .inr (5, [.int (nI jn), .int (nI (2 * jn)), .ref b_p, .int b_l])) (f_b_p : f b_p = .inl (cI, b_n, .inl b_c)) (hj1 : jn = 1) (hx0 : 0 ≤ x.toInt ∧ x.toInt < 2 * b_l.toInt) (hw : RC b_c w b_l.toInt) : Met l yX5_isThrow wsX5_isThrow ({ frames := 0, cells := 0, slots := 0, locals := 0 }) (P0 D cI cR cM [.ref b, .int x] sz (va_pl L f)) (QP (fun r => ((r.toInt = 1 ∧ w x.toInt ≠ 0) ∨ (r.toInt = 0 ∧ w x.toInt = 0)) ∧ (r.toInt = 0 ∨ r.toInt = 1)) sz) 0 0 (va_A [] sz) := by
  refine go (cc := cX5_isThrow) (maxL := 2) (ret := (some .boolean)) (by decide +kernel) rfl (Nat.le_of_ble_eq_true rfl) ?_
  intro p e s m below meth c ls args Q hQ hsz hx hb hr hml hts hown hlocks hnm hP hK hD hl
  subst hsz
  have hS : va_S (va_A [] s.heap.size) s.heap s.heap [] := va_S.rf
  have hA : ∀ q, s.heap.size ≤ q → va_A [] s.heap.size q := fun q h => Or.inr h
  have hl : lv_has ls 2 [(0, .ref b), (1, .int x)] := hl
  obtain ⟨v1_b, v2_b, v3_b, m_b_p, s_b_p⟩ := iv_0 hI m_b s_b f_b
  obtain ⟨w1_b, w2_b, w3_b, w4_b, w5_b⟩ := lenw hj v1_b v2_b v3_b
  have k_b := iv_1 hI m_b_p s_b_p f_b_p
  have hx1 := hw x.toInt hx0.1 hx0.2
  have hx2 := RC_w hw k_b (by subst hj1; omega) hx0.1 hx0.2
  refine lv_iload_n hx hb dX5_isThrow_0 rfl (lv_at hl 1 rfl) ?_
  refine a_if_lt (u := x.toInt) (tgt := 26) hx hb dX5_isThrow_1 (by decide) (rfl) (fun c_1 => ?_) (fun c_1 => ?_)
  · refine lv_iconst (v := 0) hx hb dX5_isThrow_26 (by decide) ?_
    have hz_2 : (0 : Int32).toInt = 0 := by decide
    exact rp_zret hx hb hr hlocks hS (by first | exact Or.inl rfl | exact Or.inr rfl) (⟨show ((0 : Int32).toInt = 1 ∧ w x.toInt ≠ 0) ∨ ((0 : Int32).toInt = 0 ∧ w x.toInt = 0) from (by
      by_cases q9 : w x.toInt = 0
      · rw [cd_0 q9] at *; first | exact Or.inr ⟨by omega, q9⟩ | (exfalso; subst hj1; omega)
      · rw [cd_1 q9] at *; first | exact Or.inl ⟨by omega, q9⟩ | (exfalso; subst hj1; omega)), show (0 : Int32).toInt = 0 ∨ (0 : Int32).toInt = 1 from (by first | assumption | omega | (subst hj1; omega))⟩) hQ dX5_isThrow_27
  · refine lv_iload_n hx hb dX5_isThrow_4 rfl (lv_at hl 1 rfl) ?_
    refine lv_aload_n hx hb dX5_isThrow_5 rfl (lv_at hl 0 rfl) ?_
    refine t_get (D := D) (L := L) (f := f) (ci := 5) (v := .ref b_p) (C := RX5) (T := TX5) (N := 4) hx hb hts (by decide +kernel) hown hK.1 hP m_b f_b rfl 2 (by decide) (hts (.fieldLink RX5 24 "JugglingHall$Row" "cells" "[I") (by decide +kernel)) (fun _ h9 => h9) rfl dX5_isThrow_6 ?_
    refine t_alen (L := L) (f := f) (v := nI b_n) hx hb hK.1 hP m_b_p 0 f_b_p rfl rfl dX5_isThrow_9 ?_
    refine a_icmp_ge (u := x.toInt) (v := (b_n : Int)) (tgt := 26) hx hb dX5_isThrow_10 (by decide) (rfl) (nI_toInt (by subst hj1; omega)) (fun c_3 => ?_) (fun c_3 => ?_)
    · refine lv_iconst (v := 0) hx hb dX5_isThrow_26 (by decide) ?_
      have hz_4 : (0 : Int32).toInt = 0 := by decide
      exact rp_zret hx hb hr hlocks hS (by first | exact Or.inl rfl | exact Or.inr rfl) (⟨show ((0 : Int32).toInt = 1 ∧ w x.toInt ≠ 0) ∨ ((0 : Int32).toInt = 0 ∧ w x.toInt = 0) from (by
        by_cases q9 : w x.toInt = 0
        · rw [cd_0 q9] at *; first | exact Or.inr ⟨by omega, q9⟩ | (exfalso; subst hj1; omega)
        · rw [cd_1 q9] at *; first | exact Or.inl ⟨by omega, q9⟩ | (exfalso; subst hj1; omega)), show (0 : Int32).toInt = 0 ∨ (0 : Int32).toInt = 1 from (by first | assumption | omega | (subst hj1; omega))⟩) hQ dX5_isThrow_27
    · refine lv_aload_n hx hb dX5_isThrow_13 rfl (lv_at hl 0 rfl) ?_
      refine t_get (D := D) (L := L) (f := f) (ci := 5) (v := .ref b_p) (C := RX5) (T := TX5) (N := 4) hx hb hts (by decide +kernel) hown hK.1 hP m_b f_b rfl 2 (by decide) (hts (.fieldLink RX5 24 "JugglingHall$Row" "cells" "[I") (by decide +kernel)) (fun _ h9 => h9) rfl dX5_isThrow_14 ?_
      refine lv_iload_n hx hb dX5_isThrow_17 rfl (lv_at hl 1 rfl) ?_
      refine t_iald (L := L) (f := f) (y := b_c) (u := x.toInt) hx hb hK.1 hP m_b_p 0 f_b_p rfl dX5_isThrow_18 (rfl) (by subst hj1; omega) (fun z_5 q_5 e_5 => ?_)
      obtain ⟨a1_5, a2_5, a3_5⟩ := at_c k_b (i := x.toInt) (by subst hj1; omega) q_5
      have ez_5 : z_5.toInt = cd (w x.toInt) := by rw [q_5]; exact hx1
      refine a_if_eq (u := z_5.toInt) (tgt := 26) hx hb dX5_isThrow_19 (by decide) (rfl) (fun c_6 => ?_) (fun c_6 => ?_)
      · refine lv_iconst (v := 0) hx hb dX5_isThrow_26 (by decide) ?_
        have hz_7 : (0 : Int32).toInt = 0 := by decide
        exact rp_zret hx hb hr hlocks hS (by first | exact Or.inl rfl | exact Or.inr rfl) (⟨show ((0 : Int32).toInt = 1 ∧ w x.toInt ≠ 0) ∨ ((0 : Int32).toInt = 0 ∧ w x.toInt = 0) from (by
          by_cases q9 : w x.toInt = 0
          · rw [cd_0 q9] at *; first | exact Or.inr ⟨by omega, q9⟩ | (exfalso; subst hj1; omega)
          · rw [cd_1 q9] at *; first | exact Or.inl ⟨by omega, q9⟩ | (exfalso; subst hj1; omega)), show (0 : Int32).toInt = 0 ∨ (0 : Int32).toInt = 1 from (by first | assumption | omega | (subst hj1; omega))⟩) hQ dX5_isThrow_27
      · refine lv_iconst (v := 1) hx hb dX5_isThrow_22 (by decide) ?_
        refine lv_goto (tgt := 27) hx hb dX5_isThrow_23 (by decide) ?_
        have hz_8 : (1 : Int32).toInt = 1 := by decide
        exact rp_zret hx hb hr hlocks hS (by first | exact Or.inl rfl | exact Or.inr rfl) (⟨show ((1 : Int32).toInt = 1 ∧ w x.toInt ≠ 0) ∨ ((1 : Int32).toInt = 0 ∧ w x.toInt = 0) from (by
          by_cases q9 : w x.toInt = 0
          · rw [cd_0 q9] at *; first | exact Or.inr ⟨by omega, q9⟩ | (exfalso; subst hj1; omega)
          · rw [cd_1 q9] at *; first | exact Or.inl ⟨by omega, q9⟩ | (exfalso; subst hj1; omega)), show (1 : Int32).toInt = 0 ∨ (1 : Int32).toInt = 1 from (by first | assumption | omega | (subst hj1; omega))⟩) hQ dX5_isThrow_27
set_option maxRecDepth 100000 in
set_option maxHeartbeats 4000000 in
theorem t_X5_landingm (l : Launch) (D : va_G) (cI cR cM : ClassId) (sz : Nat) {jn : Nat} {g : Nat → Nat} {L : List Nat} {S : Sg} {f : Nat → va_E} {b b_p b_n : Nat} {b_l : Int32} {b_c : Nat → Int32} {x : Int32} {w : Int → Int} (hj : 1 ≤ jn ∧ jn ≤ 3) (hG : SG g L S) (hI : IN jn cI cR cM g L S f) (m_b : b ∈ L) (s_b : S b = (0, b_p, b_n)) (f_b : f b = .inr (5, [.int (nI jn), .int (nI (2 * jn)), .ref b_p, .int b_l])) (f_b_p : f b_p = .inl (cI, b_n, .inl b_c)) (hj1 : jn = 1) (hx0 : 0 ≤ x.toInt ∧ x.toInt < 2 * b_l.toInt) (hRC : RC b_c w b_l.toInt) (hz : w x.toInt ≠ 0) : Met l yX5_landing wsX5_landing ({ frames := 2, cells := 0, slots := 0, locals := 43 }) (P0 D cI cR cM [.ref b, .int x] sz (va_pl L f)) (QP (fun r => (r.toInt = (x.toInt / 2 + w x.toInt) % b_l.toInt) ∧ (0 ≤ r.toInt ∧ r.toInt < b_l.toInt)) sz) 0 0 (va_A [] sz) := by
  refine go (cc := cX5_landing) (maxL := 2) (ret := (some .int)) (by decide +kernel) rfl (Nat.le_of_ble_eq_true rfl) ?_
  intro p e s m below meth c ls args Q hQ hsz hx hb hr hml hts hown hlocks hnm hP hK hD hl
  subst hsz
  have hS : va_S (va_A [] s.heap.size) s.heap s.heap [] := va_S.rf
  have hA : ∀ q, s.heap.size ≤ q → va_A [] s.heap.size q := fun q h => Or.inr h
  have hl : lv_has ls 2 [(0, .ref b), (1, .int x)] := hl
  obtain ⟨v1_b, v2_b, v3_b, m_b_p, s_b_p⟩ := iv_0 hI m_b s_b f_b
  obtain ⟨w1_b, w2_b, w3_b, w4_b, w5_b⟩ := lenw hj v1_b v2_b v3_b
  have k_b := iv_1 hI m_b_p s_b_p f_b_p
  refine lv_aload_n hx hb dX5_landing_0 rfl (lv_at hl 0 rfl) ?_
  refine lv_aload_n hx hb dX5_landing_1 rfl (lv_at hl 0 rfl) ?_
  refine lv_iload_n hx hb dX5_landing_2 rfl (lv_at hl 1 rfl) ?_
  refine roP (va_runV (As := [.int x]) (rest := [.ref b]) ⟨hx, hb, hml, hown, hts⟩ (t_X5_beatOfm l D cI cR cM _   hj hG hI m_b s_b f_b f_b_p (by first | assumption | omega | (subst hj1; omega)) (by first | assumption | omega | (subst hj1; omega))) (cwV 1 hts gX5_landing_X5_beatOf rfl rfl rfl (by decide +kernel) ⟨Nat.le_of_ble_eq_true rfl, Nat.le_of_ble_eq_true rfl⟩) (pre_T hK hP hD m_b f_b rfl) rfl rfl hl.1 rfl (lv_room (Nat.le_of_ble_eq_true rfl)) dX5_landing_3 ⟨Nat.le_of_ble_eq_true rfl, Nat.le_of_ble_eq_true rfl⟩) hS hA hP (fun r_1 H locs hw hP hS => ?_)
  have h_1 : (r_1.toInt = x.toInt / 2) := hw
  refine lv_aload_n hx hb dX5_landing_6 rfl (lv_at hl 0 rfl) ?_
  refine lv_iload_n hx hb dX5_landing_7 rfl (lv_at hl 1 rfl) ?_
  refine roP (va_runV (As := [.int x]) (rest := [.int r_1, .ref b]) ⟨hx, hb, hml, hown, hts⟩ (t_X5_heightm l D cI cR cM _ (w := w)  hj hG hI m_b s_b f_b f_b_p (by first | assumption | omega | (subst hj1; omega)) (by first | assumption | omega | (subst hj1; omega)) (hRC)) (cwV 1 hts gX5_landing_X5_height rfl rfl rfl (by decide +kernel) ⟨Nat.le_of_ble_eq_true rfl, Nat.le_of_ble_eq_true rfl⟩) (pre_T hK hP hD m_b f_b rfl) rfl rfl hl.1 rfl (lv_room (Nat.le_of_ble_eq_true rfl)) dX5_landing_8 ⟨Nat.le_of_ble_eq_true rfl, Nat.le_of_ble_eq_true rfl⟩) hS hA hP (fun r_2 H locs hw hP hS => ?_)
  obtain ⟨h_2, hb_2⟩ : (r_2.toInt = w x.toInt) ∧ (0 ≤ r_2.toInt ∧ r_2.toInt ≤ 9) := hw
  refine a_iadd (u := r_1.toInt) (v := r_2.toInt) hx hb dX5_landing_11 (rfl) (rfl) (by subst hj1; omega) (fun z_3 e_3 => ?_)
  refine roP (va_runV (As := [.int z_3]) (rest := []) ⟨hx, hb, hml, hown, hts⟩ (t_X5_beatInRoundm l D cI cR cM _   hj hG hI m_b s_b f_b f_b_p (by first | assumption | omega | (subst hj1; omega)) (by subst hj1; omega)) (cwV 1 hts gX5_landing_X5_beatInRound rfl rfl rfl (by decide +kernel) ⟨Nat.le_of_ble_eq_true rfl, Nat.le_of_ble_eq_true rfl⟩) (pre_T hK hP hD m_b f_b rfl) rfl rfl hl.1 rfl (lv_room (Nat.le_of_ble_eq_true rfl)) dX5_landing_12 ⟨Nat.le_of_ble_eq_true rfl, Nat.le_of_ble_eq_true rfl⟩) hS hA hP (fun r_4 H locs hw hP hS => ?_)
  obtain ⟨h_4, hb_4⟩ : (r_4.toInt = z_3.toInt % b_l.toInt) ∧ (0 ≤ r_4.toInt ∧ r_4.toInt < b_l.toInt) := hw
  have hrr : r_4.toInt = (x.toInt / 2 + w x.toInt) % b_l.toInt := by rw [h_4, show z_3.toInt = x.toInt / 2 + w x.toInt by omega]
  refine lv_aload_n hx hb dX5_landing_15 rfl (lv_at hl 0 rfl) ?_
  refine t_get (D := D) (L := L) (f := f) (ci := 5) (v := .int (nI jn)) (C := RX5) (T := TX5) (N := 4) hx hb hts (by decide +kernel) hown hK.1 hP m_b f_b rfl 0 (by decide) (hts (.fieldLink RX5 15 "JugglingHall$Row" "jugglers" "I") (by decide +kernel)) (fun _ h9 => h9) rfl dX5_landing_16 ?_
  refine a_imul (u := r_4.toInt) (v := (jn : Int)) hx hb dX5_landing_19 (rfl) (nI_toInt (by subst hj1; omega)) (by subst hj1; omega) (fun z_5 e_5 => ?_)
  refine lv_aload_n hx hb dX5_landing_20 rfl (lv_at hl 0 rfl) ?_
  refine lv_iload_n hx hb dX5_landing_21 rfl (lv_at hl 1 rfl) ?_
  refine roP (va_runV (As := [.int x]) (rest := [.int z_5]) ⟨hx, hb, hml, hown, hts⟩ (t_X5_targetm l D cI cR cM _ (w := w)  hj hG hI m_b s_b f_b f_b_p (by first | assumption | omega | (subst hj1; omega)) (by first | assumption | omega | (subst hj1; omega)) (hRC)) (cwV 1 hts gX5_landing_X5_target rfl rfl rfl (by decide +kernel) ⟨Nat.le_of_ble_eq_true rfl, Nat.le_of_ble_eq_true rfl⟩) (pre_T hK hP hD m_b f_b rfl) rfl rfl hl.1 rfl (lv_room (Nat.le_of_ble_eq_true rfl)) dX5_landing_22 ⟨Nat.le_of_ble_eq_true rfl, Nat.le_of_ble_eq_true rfl⟩) hS hA hP (fun r_6 H locs hw hP hS => ?_)
  obtain ⟨h_6, hb_6⟩ : (w x.toInt ≠ 0 → r_6.toInt = 0) ∧ (0 ≤ r_6.toInt ∧ r_6.toInt ≤ 3) := hw
  have htt := h_6 hz
  refine a_iadd (u := (r_4.toInt * (jn : Int))) (v := r_6.toInt) hx hb dX5_landing_25 (e_5) (rfl) (by subst hj1; omega) (fun z_7 e_7 => ?_)
  exact rp_iret hx hb hr hlocks hS (⟨show z_7.toInt = (x.toInt / 2 + w x.toInt) % b_l.toInt from (by rw [← hrr]; subst hj1; omega), show 0 ≤ z_7.toInt ∧ z_7.toInt < b_l.toInt from (by first | assumption | omega | (subst hj1; omega))⟩) hQ dX5_landing_26
set_option maxRecDepth 100000 in
set_option maxHeartbeats 4000000 in
theorem t_X1_badPlacem (l : Launch) (D : va_G) (cI cR cM : ClassId) (sz : Nat) {jn : Nat} {g : Nat → Nat} {L : List Nat} {S : Sg} {f : Nat → va_E} {o o_p o_n : Nat} {o_l : Int32} {o_c : Nat → Int32} {w : Int → Int} (hj : 1 ≤ jn ∧ jn ≤ 3) (hG : SG g L S) (hI : IN jn cI cR cM g L S f) (m_o : o ∈ L) (s_o : S o = (0, o_p, o_n)) (f_o : f o = .inr (5, [.int (nI jn), .int (nI (2 * jn)), .ref o_p, .int o_l])) (f_o_p : f o_p = .inl (cI, o_n, .inl o_c)) (hj1 : jn = 1) (hRC : RC o_c w o_l.toInt) (hpos : 1 ≤ o_l.toInt ∧ o_l.toInt ≤ 24) : Met l yX1_badPlace wsX1_badPlace ({ frames := 3, cells := 0, slots := 0, locals := 64 }) (P0 D cI cR cM [.ref (g 15), .ref o] sz (va_pl L f)) (QG (S := Int32 × (Nat → va_E)) (fun u => some (.int u.1)) (fun u => va_pl L u.2) (fun u => IN jn cI cR cM g L S u.2 ∧ FR S [35] f u.2 ∧ ((u.1.toInt = -1 ∧ GdW w o_l.toInt) ∨ (u.1.toInt ≠ -1 ∧ ¬ GdW w o_l.toInt)) ∧ (-1 ≤ u.1.toInt ∧ u.1.toInt ≤ 71) ∧ (FX S (fun _ => False) [35] f u.2)) D (va_A (va_pl L f) sz)) 0 0 (va_A (va_pl L f) sz) := by
  refine go (cc := cX1_badPlace) (maxL := 4) (ret := (some .int)) (by decide +kernel) rfl (Nat.le_of_ble_eq_true rfl) ?_
  intro p e s m below meth c ls args Q hQ hsz hx hb hr hml hts hown hlocks hnm hP hK hD hl
  subst hsz
  have hD := hD.self (sz := s.heap.size)
  generalize hAe : va_A (va_pl L f) s.heap.size = A at hD hQ
  have hA : ∀ q, s.heap.size ≤ q → A q := fun q h => by rw [← hAe]; exact Or.inr h
  have hS : va_S A s.heap s.heap [] := va_S.rf
  have hFX : FX S (fun _ => False) [35] f f := FX_rf
  have hF : FR S [35] f f := FR_rf
  have hl : lv_has ls 4 [(0, .ref (g 15)), (1, .ref o)] := hl
  obtain ⟨v1_o, v2_o, v3_o, m_o_p, s_o_p⟩ := iv_0 hI m_o s_o f_o
  obtain ⟨w1_o, w2_o, w3_o, w4_o, w5_o⟩ := lenw hj v1_o v2_o v3_o
  have k_o := iv_1 hI m_o_p s_o_p f_o_p
  refine lv_aload_n hx hb dX1_badPlace_0 rfl (lv_at hl 0 rfl) ?_
  obtain ⟨cnt_1, rw_1, fg_1, iv0_1, iv1_1, iv2_1⟩ := op_15 hI (gm_15 hG) (gs_15 hG)
  refine t_get (D := D) (L := L) (f := f) (ci := 1) (v := .ref (g 35)) (C := RX1) (T := TX1) (N := 8) hx hb hts (by decide +kernel) hown hK.1 hP (gm_15 hG) fg_1 rfl 0 (by decide) (hts (.fieldLink RX1 9 "JugglingHall$Catches" "surplus" "[I") (by decide +kernel)) (fun _ h9 => h9) rfl dX1_badPlace_1 ?_
  refine lv_iconst (v := 0) hx hb dX1_badPlace_4 (by decide) ?_
  obtain ⟨c_2, fg_2⟩ := op_35 hI (gm_35 hG) (gs_35 hG)
  have hP1 := p_one hP (gm_35 hG) fg_2
  have hD1 := d_one (g 35) (.inl (cI, 72, .inl c_2))
  refine call_1 (f := f) (w1 := fun k9 => .inl (cI, 72, .inl k9)) (va_runS (As := [.ref (g 35), .int 0]) (rest := []) ⟨hx, hb, hml, hown, hts⟩ (c_fill l D cI cR cM _ (n := 72) (by subst hj1; omega) c_2 (g 35) (0 : Int32)) (va_cwS 2 hts gX1_badPlace_J7_fill_53178 rfl rfl rfl (by decide +kernel) ⟨Nat.le_of_ble_eq_true rfl, Nat.le_of_ble_eq_true rfl⟩) (pre_S hK hP1 hD1) rfl rfl hl.1 rfl (lv_room (Nat.le_of_ble_eq_true rfl)) dX1_badPlace_5 ⟨Nat.le_of_ble_eq_true rfl, Nat.le_of_ble_eq_true rfl⟩) hP hD hS hA (gm_35 hG) (fun g_3 f_3 H locs hw_3 e9_3 o_3 hP hD hS => ?_)
  have hw_3 : ∀ j, j < 72 → g_3 j = (0 : Int32) := hw_3
  have fa_3 : f_3 (g 35) = .inl (cI, 72, .inl g_3) := e9_3
  have hI := IN_set (e := .inl (cI, 72, .inl g_3)) hI (gs_35 hG) (mk_35) fa_3 o_3
  have hF := FR_set hF (gs_35 hG) (show (35 : Nat) ∈ ([35] : List Nat) by decide) o_3
  have hFX := FX_setT hFX (gs_35 hG) (show (35 : Nat) ∈ ([35] : List Nat) by decide) o_3
  have fb_4 : f_3 o = .inr (5, [.int (nI jn), .int (nI (2 * jn)), .ref o_p, .int o_l]) := f_at o_3 (S_ne s_o (gs_35 hG) (show (0 : Nat) ≠ 35 by decide)) f_o
  have fb_5 : f_3 o_p = .inl (cI, o_n, .inl o_c) := f_at o_3 (S_ne s_o_p (gs_35 hG) (show (1 : Nat) ≠ 35 by decide)) f_o_p
  have fb_6 : f_3 (g 15) = .inr (1, [.ref (g 35), .ref (g 27), .ref (g 36), .ref (g 37), .ref (g 38), .ref (g 39), .int cnt_1, va_rf rw_1]) := f_at o_3 (S_ne (gs_15 hG) (gs_35 hG) (show (15 : Nat) ≠ 35 by decide)) fg_1
  refine lv_sipush (v := 144) hx hb dX1_badPlace_8 (by decide) ?_
  refine lv_aload_n hx hb dX1_badPlace_11 rfl (lv_at hl 1 rfl) ?_
  refine roP (va_runV (As := []) (rest := [.int 144]) ⟨hx, hb, hml, hown, hts⟩ (t_X5_cellCountm l D cI cR cM _   hj hG hI m_o s_o fb_4 fb_5 (by first | assumption | omega | (subst hj1; omega))) (cwV 0 hts gX1_badPlace_X5_cellCount rfl rfl rfl (by decide +kernel) ⟨Nat.le_of_ble_eq_true rfl, Nat.le_of_ble_eq_true rfl⟩) (pre_T hK hP hD m_o fb_4 rfl) rfl rfl hl.1 rfl (lv_room (Nat.le_of_ble_eq_true rfl)) dX1_badPlace_12 ⟨Nat.le_of_ble_eq_true rfl, Nat.le_of_ble_eq_true rfl⟩) hS hA hP (fun r_7 H locs hw hP hS => ?_)
  have h_7 : (r_7.toInt = 2 * o_l.toInt) := hw
  refine va_mmin hx hb (by rw [hml]; exact hl.1.symm) hown (hts (.methodLink RX1 42 Lib.Math.min.name) (by decide +kernel)) (hts (.static Lib.Math.min.name) (by decide +kernel)) (hts (.initialized "java/lang/Math") (by decide +kernel)) (hts (.code Lib.Math.min.name Lib.Math.min.code 2 (some .int)) (by decide +kernel)) (Nat.le_of_ble_eq_true rfl) (Nat.le_of_ble_eq_true rfl) (Nat.le_of_ble_eq_true rfl) (Nat.le_of_ble_eq_true rfl) dX1_badPlace_15 ?_
  refine lv_topi (fun z_8 q_8 => ?_)
  obtain ⟨e1_8, e2_8, e3_8⟩ := i_min (u := 144) (v := r_7.toInt) (by decide) (rfl) q_8
  refine lv_istore_n (lv' := [(2, .int z_8), (0, .ref (g 15)), (1, .ref o)]) hx hb dX1_badPlace_18 rfl hl (by decide) rfl (fun ls hl => ?_)
  refine lv_iconst (v := 0) hx hb dX1_badPlace_19 (by decide) ?_
  refine lv_istore_n (lv' := [(3, .int 0), (2, .int z_8), (0, .ref (g 15)), (1, .ref o)]) hx hb dX1_badPlace_20 rfl hl (by decide) rfl (fun ls hl => ?_)
  have loop21 : ∀ (ddloop21 : Nat) (ce : Int32) (f_9 : Nat → va_E) (H : Heap) (locs : List Loc) (ls : Array Slot), (200 - ce.toInt).toNat < ddloop21 → IN jn cI cR cM g L S f_9 → FR S [35] f f_9 → (0 ≤ ce.toInt ∧ ce.toInt ≤ 2 * o_l.toInt) → (∃ c9 : Nat → Int32, f_9 (g 35) = .inl (cI, 72, .inl c9) ∧ ∀ b9 : Int, 0 ≤ b9 → b9 < 72 → (c9 b9.toNat).toInt = - lnd w o_l.toInt b9 ce.toInt.toNat) → (FX S (fun _ => False) [35] f f_9) → va_P D vwCl (va_pl L f_9) H → va_D A (va_pl L f_9) → va_S A s.heap H locs → lv_has ls 4 [(0, .ref (g 15)), (1, .ref o), (2, .int z_8), (3, .int ce)] → W p l e ({ frames := 3, cells := 0, slots := 0, locals := 64 }) s m args below meth c H locs (0) (0) Q (F0 m 21 ls []) := by
    intro ddloop21
    induction ddloop21 with
    | zero =>
      intro ce f_9 H locs ls hdd
      exact absurd hdd (Nat.not_lt_zero _)
    | succ ddloop21 ih21 =>
      intro ce f_9 H locs ls hdd hI hF hi hc hFX hP hD hS hl
      have fb_10 : f_9 o = .inr (5, [.int (nI jn), .int (nI (2 * jn)), .ref o_p, .int o_l]) := FR_at hF s_o (show (0 : Nat) ∉ ([35] : List Nat) by decide) f_o
      have fb_11 : f_9 o_p = .inl (cI, o_n, .inl o_c) := FR_at hF s_o_p (show (1 : Nat) ∉ ([35] : List Nat) by decide) f_o_p
      obtain ⟨c_12, fg_12⟩ := op_35 hI (gm_35 hG) (gs_35 hG)
      have hk9 := hi
      obtain ⟨c9, hc1, hc2⟩ := hc
      have hce : c_12 = c9 := arr_in hc1 fg_12
      rw [← hce] at hc2
      refine lv_iload_n hx hb dX1_badPlace_21 rfl (lv_at hl 3 rfl) ?_
      refine lv_iload_n hx hb dX1_badPlace_22 rfl (lv_at hl 2 rfl) ?_
      refine a_icmp_ge (u := ce.toInt) (v := z_8.toInt) (tgt := 66) hx hb dX1_badPlace_23 (by decide) (rfl) (rfl) (fun c_13 => ?_) (fun c_13 => ?_)
      · refine lv_iconst (v := 0) hx hb dX1_badPlace_66 (by decide) ?_
        refine lv_istore_n (lv' := [(3, .int 0), (0, .ref (g 15)), (1, .ref o), (2, .int z_8)]) hx hb dX1_badPlace_67 rfl hl (by decide) rfl (fun ls hl => ?_)
        have loop68 : ∀ (ddloop68 : Nat) (pl : Int32) (f_14 : Nat → va_E) (H : Heap) (locs : List Loc) (ls : Array Slot), (100 - pl.toInt).toNat < ddloop68 → IN jn cI cR cM g L S f_14 → FR S [35] f f_14 → (0 ≤ pl.toInt ∧ pl.toInt ≤ 72) → (∃ c9 : Nat → Int32, f_14 (g 35) = .inl (cI, 72, .inl c9) ∧ (∀ b9 : Int, 0 ≤ b9 → b9 < 72 → (c9 b9.toNat).toInt = - lnd w o_l.toInt b9 (2 * o_l.toInt).toNat) ∧ ∀ b9 : Int, 0 ≤ b9 → b9 < pl.toInt → (c9 b9.toNat).toInt = 0) → (FX S (fun _ => False) [35] f f_14) → va_P D vwCl (va_pl L f_14) H → va_D A (va_pl L f_14) → va_S A s.heap H locs → lv_has ls 4 [(0, .ref (g 15)), (1, .ref o), (2, .int z_8), (3, .int pl)] → W p l e ({ frames := 3, cells := 0, slots := 0, locals := 64 }) s m args below meth c H locs (0) (0) Q (F0 m 68 ls []) := by
          intro ddloop68
          induction ddloop68 with
          | zero =>
            intro pl f_14 H locs ls hdd
            exact absurd hdd (Nat.not_lt_zero _)
          | succ ddloop68 ih68 =>
            intro pl f_14 H locs ls hdd hI hF hi hc hFX hP hD hS hl
            have fb_15 : f_14 o = .inr (5, [.int (nI jn), .int (nI (2 * jn)), .ref o_p, .int o_l]) := FR_at hF s_o (show (0 : Nat) ∉ ([35] : List Nat) by decide) f_o
            have fb_16 : f_14 o_p = .inl (cI, o_n, .inl o_c) := FR_at hF s_o_p (show (1 : Nat) ∉ ([35] : List Nat) by decide) f_o_p
            obtain ⟨c_17, fg_17⟩ := op_35 hI (gm_35 hG) (gs_35 hG)
            have hk9 := hi
            obtain ⟨c9, hc1, hc2, hc3⟩ := hc
            have hce : c_17 = c9 := arr_in hc1 fg_17
            rw [← hce] at hc2 hc3
            refine lv_iload_n hx hb dX1_badPlace_68 rfl (lv_at hl 3 rfl) ?_
            refine lv_aload_n hx hb dX1_badPlace_69 rfl (lv_at hl 0 rfl) ?_
            obtain ⟨cnt_18, rw_18, fg_18, iv0_18, iv1_18, iv2_18⟩ := op_15 hI (gm_15 hG) (gs_15 hG)
            refine t_get (D := D) (L := L) (f := f_14) (ci := 1) (v := .ref (g 35)) (C := RX1) (T := TX1) (N := 8) hx hb hts (by decide +kernel) hown hK.1 hP (gm_15 hG) fg_18 rfl 0 (by decide) (hts (.fieldLink RX1 9 "JugglingHall$Catches" "surplus" "[I") (by decide +kernel)) (fun _ h9 => h9) rfl dX1_badPlace_70 ?_
            refine t_alen (L := L) (f := f_14) (v := 72) hx hb hK.1 hP (gm_35 hG) 0 fg_17 rfl rfl dX1_badPlace_73 ?_
            refine a_icmp_ge (u := pl.toInt) (v := 72) (tgt := 94) hx hb dX1_badPlace_74 (by decide) (rfl) (by decide) (fun c_19 => ?_) (fun c_19 => ?_)
            · refine lv_iconst (v := (-1)) hx hb dX1_badPlace_94 (by decide) ?_
              have hz_20 : (-1 : Int32).toInt = (-1) := by decide
              exact g_iret ((-1 : Int32), f_14) hx hb hr hlocks hS rfl (⟨hI, hF, show ((-1 : Int32).toInt = -1 ∧ GdW w o_l.toInt) ∨ ((-1 : Int32).toInt ≠ -1 ∧ ¬ GdW w o_l.toInt) from (Or.inl ⟨rfl, fun b9 h8 h9 => by have h7 := hc2 b9 h8 (by subst hj1; omega); have h6 := hc3 b9 h8 (by subst hj1; omega); omega⟩), show -1 ≤ (-1 : Int32).toInt ∧ (-1 : Int32).toInt ≤ 71 from (by first | assumption | omega | (subst hj1; omega)), show FX S (fun _ => False) [35] f f_14 from (by first | assumption | omega | (subst hj1; omega))⟩) hP hD hQ (Nat.le_of_ble_eq_true rfl) (Nat.le_of_ble_eq_true rfl) dX1_badPlace_95
            · refine lv_aload_n hx hb dX1_badPlace_77 rfl (lv_at hl 0 rfl) ?_
              refine t_get (D := D) (L := L) (f := f_14) (ci := 1) (v := .ref (g 35)) (C := RX1) (T := TX1) (N := 8) hx hb hts (by decide +kernel) hown hK.1 hP (gm_15 hG) fg_18 rfl 0 (by decide) (hts (.fieldLink RX1 9 "JugglingHall$Catches" "surplus" "[I") (by decide +kernel)) (fun _ h9 => h9) rfl dX1_badPlace_78 ?_
              refine lv_iload_n hx hb dX1_badPlace_81 rfl (lv_at hl 3 rfl) ?_
              refine t_iald (L := L) (f := f_14) (y := c_17) (u := pl.toInt) hx hb hK.1 hP (gm_35 hG) 0 fg_17 rfl dX1_badPlace_82 (rfl) (by subst hj1; omega) (fun z_21 q_21 e_21 => ?_)
              refine a_if_eq (u := z_21.toInt) (tgt := 88) hx hb dX1_badPlace_83 (by decide) (rfl) (fun c_22 => ?_) (fun c_22 => ?_)
              · obtain ⟨z_23, q_23, e_23⟩ := i_inc (a := pl.toInt) (1) (rfl) (by decide) (by subst hj1; omega) (by subst hj1; omega)
                refine lv_iinc (v := z_23) (lv' := [(3, .int z_23), (0, .ref (g 15)), (1, .ref o), (2, .int z_8)]) hx hb dX1_badPlace_88 hl (k := 3) rfl q_23 (by decide) rfl (fun ls hl => ?_)
                refine lv_goto (tgt := 68) hx hb dX1_badPlace_91 (by decide) ?_
                exact ih68 z_23 f_14 _ _ _ (by subst hj1; omega) hI hF (by first | assumption | omega | (subst hj1; omega)) (⟨c9, hc1, by rw [← hce]; exact hc2, fun b9 h8 h9 => by
                  by_cases q9 : b9 = pl.toInt
                  · rw [q9, ← hce, ← q_21]; omega
                  · rw [← hce]; exact hc3 b9 h8 (by subst hj1; omega)⟩) (by first | assumption | omega | (subst hj1; omega)) hP hD hS (lv_sub hl [1, 2, 3, 0] rfl)
              · refine lv_iload_n hx hb dX1_badPlace_86 rfl (lv_at hl 3 rfl) ?_
                exact g_iret (pl, f_14) hx hb hr hlocks hS rfl (⟨hI, hF, show (pl.toInt = -1 ∧ GdW w o_l.toInt) ∨ (pl.toInt ≠ -1 ∧ ¬ GdW w o_l.toInt) from (Or.inr ⟨by omega, fun q9 => by
                  have h7 := hc2 pl.toInt (by subst hj1; omega) (by subst hj1; omega)
                  rw [← q_21] at h7
                  by_cases q8 : pl.toInt < o_l.toInt
                  · have := q9 pl.toInt (by subst hj1; omega) q8; omega
                  · have := lnd_out (w := w) (n := o_l.toInt) (b := pl.toInt) (2 * o_l.toInt).toNat (by subst hj1; omega) (by subst hj1; omega) (by subst hj1; omega); omega⟩), show -1 ≤ pl.toInt ∧ pl.toInt ≤ 71 from (by first | assumption | omega | (subst hj1; omega)), show FX S (fun _ => False) [35] f f_14 from (by first | assumption | omega | (subst hj1; omega))⟩) hP hD hQ (Nat.le_of_ble_eq_true rfl) (Nat.le_of_ble_eq_true rfl) dX1_badPlace_87
        have hz_24 : (0 : Int32).toInt = 0 := by decide
        exact loop68 ((100 - (0 : Int32).toInt).toNat + 1) (0 : Int32) f_9 _ _ _ (by subst hj1; omega) hI hF (by first | assumption | omega | (subst hj1; omega)) (⟨_, hc1, fun b9 h8 h9 => by rw [← hce]; rw [show 2 * o_l.toInt = ce.toInt by omega]; exact hc2 b9 h8 h9, fun b9 h8 h9 => absurd h9 (by subst hj1; omega)⟩) (by first | assumption | omega | (subst hj1; omega)) hP hD hS (lv_sub hl [1, 2, 3, 0] rfl)
      · refine lv_aload_n hx hb dX1_badPlace_26 rfl (lv_at hl 1 rfl) ?_
        refine lv_iload_n hx hb dX1_badPlace_27 rfl (lv_at hl 3 rfl) ?_
        refine roP (va_runV (As := [.int ce]) (rest := []) ⟨hx, hb, hml, hown, hts⟩ (t_X5_isThrowm l D cI cR cM _ (w := w)  hj hG hI m_o s_o fb_10 fb_11 (by first | assumption | omega | (subst hj1; omega)) (by first | assumption | omega | (subst hj1; omega)) (hRC)) (cwV 1 hts gX1_badPlace_X5_isThrow rfl rfl rfl (by decide +kernel) ⟨Nat.le_of_ble_eq_true rfl, Nat.le_of_ble_eq_true rfl⟩) (pre_T hK hP hD m_o fb_10 rfl) rfl rfl hl.1 rfl (lv_room (Nat.le_of_ble_eq_true rfl)) dX1_badPlace_28 ⟨Nat.le_of_ble_eq_true rfl, Nat.le_of_ble_eq_true rfl⟩) hS hA hP (fun r_25 H locs hw hP hS => ?_)
        obtain ⟨h_25, h01_25⟩ : ((r_25.toInt = 1 ∧ w ce.toInt ≠ 0) ∨ (r_25.toInt = 0 ∧ w ce.toInt = 0)) ∧ (r_25.toInt = 0 ∨ r_25.toInt = 1) := hw
        refine a_if_eq (u := r_25.toInt) (tgt := 60) hx hb dX1_badPlace_31 (by decide) (rfl) (fun c_26 => ?_) (fun c_26 => ?_)
        · obtain ⟨z_27, q_27, e_27⟩ := i_inc (a := ce.toInt) (1) (rfl) (by decide) (by subst hj1; omega) (by subst hj1; omega)
          refine lv_iinc (v := z_27) (lv' := [(3, .int z_27), (0, .ref (g 15)), (1, .ref o), (2, .int z_8)]) hx hb dX1_badPlace_60 hl (k := 3) rfl q_27 (by decide) rfl (fun ls hl => ?_)
          refine lv_goto (tgt := 21) hx hb dX1_badPlace_63 (by decide) ?_
          exact ih21 z_27 f_9 _ _ _ (by subst hj1; omega) hI hF (by first | assumption | omega | (subst hj1; omega)) (⟨_, fg_12, fun b9 h8 h9 => by rw [show z_27.toInt = ce.toInt + 1 by omega, lnd_z (by subst hj1; omega) (h_25.resolve_left (fun q9 => by have := q9.1; omega)).2]; exact hc2 b9 h8 h9⟩) (by first | assumption | omega | (subst hj1; omega)) hP hD hS (lv_sub hl [1, 2, 3, 0] rfl)
        · have hz9 := (h_25.resolve_right (fun q9 => by have := q9.1; omega)).2
          refine lv_aload_n hx hb dX1_badPlace_34 rfl (lv_at hl 0 rfl) ?_
          obtain ⟨cnt_28, rw_28, fg_28, iv0_28, iv1_28, iv2_28⟩ := op_15 hI (gm_15 hG) (gs_15 hG)
          refine t_get (D := D) (L := L) (f := f_9) (ci := 1) (v := .ref (g 35)) (C := RX1) (T := TX1) (N := 8) hx hb hts (by decide +kernel) hown hK.1 hP (gm_15 hG) fg_28 rfl 0 (by decide) (hts (.fieldLink RX1 9 "JugglingHall$Catches" "surplus" "[I") (by decide +kernel)) (fun _ h9 => h9) rfl dX1_badPlace_35 ?_
          refine lv_iload_n hx hb dX1_badPlace_38 rfl (lv_at hl 3 rfl) ?_
          refine lv_iconst (v := 2) hx hb dX1_badPlace_39 (by decide) ?_
          refine a_idiv (u := ce.toInt) (v := 2) hx hb dX1_badPlace_40 (rfl) (by decide) (by subst hj1; omega) (fun z_29 e_29 => ?_)
          refine lv_dup2_11 hx hb dX1_badPlace_41 rfl rfl ?_
          refine t_iald (L := L) (f := f_9) (y := c_12) (u := (ce.toInt / 2)) hx hb hK.1 hP (gm_35 hG) 0 fg_12 rfl dX1_badPlace_42 (e_29) (by subst hj1; omega) (fun z_30 q_30 e_30 => ?_)
          have hv42 := hc2 (ce.toInt / 2) (by subst hj1; omega) (by subst hj1; omega)
          have hd42 := lnd_b w o_l.toInt (ce.toInt / 2) ce.toInt.toNat
          have hv42b : z_30.toInt = - lnd w o_l.toInt (ce.toInt / 2) ce.toInt.toNat := by rw [q_30]; exact hv42
          refine lv_iconst (v := 1) hx hb dX1_badPlace_43 (by decide) ?_
          refine a_iadd (u := z_30.toInt) (v := 1) hx hb dX1_badPlace_44 (rfl) (by decide) (by subst hj1; omega) (fun z_31 e_31 => ?_)
          refine t_iast (L := L) (f := f_9) (h := c_12) (u := (ce.toInt / 2)) hx hb hK.1 hP hD hS (gm_35 hG) 0 fg_12 rfl dX1_badPlace_45 (e_29) (by subst hj1; omega) (fun g_32 f_32 H locs eg_32 e9_32 o_32 hP hD hS => ?_)
          have fa_32 : f_32 (g 35) = .inl (cI, 72, .inl g_32) := e9_32
          have hI := IN_set (e := .inl (cI, 72, .inl g_32)) hI (gs_35 hG) (mk_35) fa_32 o_32
          have hF := FR_set hF (gs_35 hG) (show (35 : Nat) ∈ ([35] : List Nat) by decide) o_32
          have hFX := FX_setT hFX (gs_35 hG) (show (35 : Nat) ∈ ([35] : List Nat) by decide) o_32
          have fb_33 : f_32 o = .inr (5, [.int (nI jn), .int (nI (2 * jn)), .ref o_p, .int o_l]) := f_at o_32 (S_ne s_o (gs_35 hG) (show (0 : Nat) ≠ 35 by decide)) fb_10
          have fb_34 : f_32 o_p = .inl (cI, o_n, .inl o_c) := f_at o_32 (S_ne s_o_p (gs_35 hG) (show (1 : Nat) ≠ 35 by decide)) fb_11
          have fb_35 : f_32 (g 15) = .inr (1, [.ref (g 35), .ref (g 27), .ref (g 36), .ref (g 37), .ref (g 38), .ref (g 39), .int cnt_28, va_rf rw_28]) := f_at o_32 (S_ne (gs_15 hG) (gs_35 hG) (show (15 : Nat) ≠ 35 by decide)) fg_28
          have hin1 : z_31.toInt = (c_12 (ce.toInt / 2).toNat).toInt + 1 := by rw [hv42]; omega
          refine lv_aload_n hx hb dX1_badPlace_46 rfl (lv_at hl 0 rfl) ?_
          refine t_get (D := D) (L := L) (f := f_32) (ci := 1) (v := .ref (g 35)) (C := RX1) (T := TX1) (N := 8) hx hb hts (by decide +kernel) hown hK.1 hP (gm_15 hG) fb_35 rfl 0 (by decide) (hts (.fieldLink RX1 9 "JugglingHall$Catches" "surplus" "[I") (by decide +kernel)) (fun _ h9 => h9) rfl dX1_badPlace_47 ?_
          refine lv_aload_n hx hb dX1_badPlace_50 rfl (lv_at hl 1 rfl) ?_
          refine lv_iload_n hx hb dX1_badPlace_51 rfl (lv_at hl 3 rfl) ?_
          refine roP (va_runV (As := [.int ce]) (rest := [.ref (g 35)]) ⟨hx, hb, hml, hown, hts⟩ (t_X5_landingm l D cI cR cM _ (w := w)  hj hG hI m_o s_o fb_33 fb_34 (by first | assumption | omega | (subst hj1; omega)) (by first | assumption | omega | (subst hj1; omega)) (hRC) (by first | assumption | omega | (subst hj1; omega))) (cwV 1 hts gX1_badPlace_X5_landing rfl rfl rfl (by decide +kernel) ⟨Nat.le_of_ble_eq_true rfl, Nat.le_of_ble_eq_true rfl⟩) (pre_T hK hP hD m_o fb_33 rfl) rfl rfl hl.1 rfl (lv_room (Nat.le_of_ble_eq_true rfl)) dX1_badPlace_52 ⟨Nat.le_of_ble_eq_true rfl, Nat.le_of_ble_eq_true rfl⟩) hS hA hP (fun r_36 H locs hw hP hS => ?_)
          obtain ⟨h_36, hb_36⟩ : (r_36.toInt = (ce.toInt / 2 + w ce.toInt) % o_l.toInt) ∧ (0 ≤ r_36.toInt ∧ r_36.toInt < o_l.toInt) := hw
          have hla := h_36
          refine lv_dup2_11 hx hb dX1_badPlace_55 rfl rfl ?_
          refine t_iald (L := L) (f := f_32) (y := g_32) (u := r_36.toInt) hx hb hK.1 hP (gm_35 hG) 0 fa_32 rfl dX1_badPlace_56 (rfl) (by subst hj1; omega) (fun z_37 q_37 e_37 => ?_)
          have hd56 := lnd_b w o_l.toInt r_36.toInt ce.toInt.toNat
          have hv56 : z_37.toInt ≤ 300 ∧ -300 ≤ z_37.toInt := by
            rw [q_37]
            by_cases q9 : r_36.toInt = (ce.toInt / 2)
            · rw [eg_32, q9, pk_us]; omega
            · rw [eg_32, un_i (by subst hj1; omega) (by subst hj1; omega) q9, hc2 _ (by subst hj1; omega) (by subst hj1; omega)]; omega
          refine lv_iconst (v := 1) hx hb dX1_badPlace_57 (by decide) ?_
          refine a_isub (u := z_37.toInt) (v := 1) hx hb dX1_badPlace_58 (rfl) (by decide) (by subst hj1; omega) (fun z_38 e_38 => ?_)
          refine t_iast (L := L) (f := f_32) (h := g_32) (u := r_36.toInt) hx hb hK.1 hP hD hS (gm_35 hG) 0 fa_32 rfl dX1_badPlace_59 (rfl) (by subst hj1; omega) (fun g_39 f_39 H locs eg_39 e9_39 o_39 hP hD hS => ?_)
          have fa_39 : f_39 (g 35) = .inl (cI, 72, .inl g_39) := e9_39
          have hI := IN_set (e := .inl (cI, 72, .inl g_39)) hI (gs_35 hG) (mk_35) fa_39 o_39
          have hF := FR_set hF (gs_35 hG) (show (35 : Nat) ∈ ([35] : List Nat) by decide) o_39
          have hFX := FX_setT hFX (gs_35 hG) (show (35 : Nat) ∈ ([35] : List Nat) by decide) o_39
          have fb_40 : f_39 o = .inr (5, [.int (nI jn), .int (nI (2 * jn)), .ref o_p, .int o_l]) := f_at o_39 (S_ne s_o (gs_35 hG) (show (0 : Nat) ≠ 35 by decide)) fb_33
          have fb_41 : f_39 o_p = .inl (cI, o_n, .inl o_c) := f_at o_39 (S_ne s_o_p (gs_35 hG) (show (1 : Nat) ≠ 35 by decide)) fb_34
          have fb_42 : f_39 (g 15) = .inr (1, [.ref (g 35), .ref (g 27), .ref (g 36), .ref (g 37), .ref (g 38), .ref (g 39), .int cnt_28, va_rf rw_28]) := f_at o_39 (S_ne (gs_15 hG) (gs_35 hG) (show (15 : Nat) ≠ 35 by decide)) fb_35
          have hin2 : z_38.toInt = (g_32 r_36.toInt.toNat).toInt - 1 := by rw [← q_37]; omega
          obtain ⟨z_43, q_43, e_43⟩ := i_inc (a := ce.toInt) (1) (rfl) (by decide) (by subst hj1; omega) (by subst hj1; omega)
          refine lv_iinc (v := z_43) (lv' := [(3, .int z_43), (0, .ref (g 15)), (1, .ref o), (2, .int z_8)]) hx hb dX1_badPlace_60 hl (k := 3) rfl q_43 (by decide) rfl (fun ls hl => ?_)
          refine lv_goto (tgt := 21) hx hb dX1_badPlace_63 (by decide) ?_
          exact ih21 z_43 f_39 _ _ _ (by subst hj1; omega) hI hF (by first | assumption | omega | (subst hj1; omega)) (⟨_, fa_39, fun b9 h8 h9 => by
            rw [show z_43.toInt = ce.toInt + 1 by omega]
            exact lnd_c (p := (ce.toInt / 2)) (q := r_36.toInt) (by subst hj1; omega) hz9 hc2 (by subst hj1; omega) hla (by subst hj1; omega) (by subst hj1; omega) eg_32 hin1 eg_39 hin2 h8 h9⟩) (by first | assumption | omega | (subst hj1; omega)) hP hD hS (lv_sub hl [1, 2, 3, 0] rfl)
  have hz_44 : (0 : Int32).toInt = 0 := by decide
  exact loop21 ((200 - (0 : Int32).toInt).toNat + 1) (0 : Int32) f_3 _ _ _ (by subst hj1; omega) hI hF (by first | assumption | omega | (subst hj1; omega)) (⟨_, fa_3, fun b9 h8 h9 => by rw [hw_3 b9.toNat (by subst hj1; omega)]; rfl⟩) (by first | assumption | omega | (subst hj1; omega)) hP hD hS (lv_sub hl [2, 3, 1, 0] rfl)
