/-- whose a cell is -/
def own (S : Sg) (a : Nat) : Nat := if (S a).1 = 1 then (S a).2.2 else a
theorem own_0 {S : Sg} {a p n : Nat} (h : S a = (0, p, n)) : own S a = a := by unfold own; rw [h]; rfl
theorem own_1 {S : Sg} {a p n : Nat} (h : S a = (1, p, n)) : own S a = n := by unfold own; rw [h]; rfl
/-- only rows of B and cells of the tags T have changed -/
def FX (S : Sg) (B : Nat → Prop) (T : List Nat) (f f1 : Nat → va_E) : Prop := ∀ a, ¬ B (own S a) → (S a).1 ∉ T → f1 a = f a
theorem FX_rf {S : Sg} {B : Nat → Prop} {T : List Nat} {f : Nat → va_E} : FX S B T f f := fun _ _ _ => rfl
theorem FX_set0 {S : Sg} {B : Nat → Prop} {T : List Nat} {f0 f f1 : Nat → va_E} {a p n : Nat} (h : FX S B T f0 f) (hs : S a = (0, p, n)) (hm : B a) (o1 : ∀ b, b ≠ a → f1 b = f b) : FX S B T f0 f1 := fun b hb ht => by
  rw [o1 b (fun e => hb (by rw [e, own_0 hs]; exact hm))]
  exact h b hb ht
theorem FX_set1 {S : Sg} {B : Nat → Prop} {T : List Nat} {f0 f f1 : Nat → va_E} {a p n : Nat} (h : FX S B T f0 f) (hs : S a = (1, p, n)) (hm : B n) (o1 : ∀ b, b ≠ a → f1 b = f b) : FX S B T f0 f1 := fun b hb ht => by
  rw [o1 b (fun e => hb (by rw [e, own_1 hs]; exact hm))]
  exact h b hb ht
theorem FX_setT {S : Sg} {B : Nat → Prop} {T : List Nat} {f0 f f1 : Nat → va_E} {a : Nat} {q : Nat × Nat × Nat} (h : FX S B T f0 f) (hs : S a = q) (hm : q.1 ∈ T) (o1 : ∀ b, b ≠ a → f1 b = f b) : FX S B T f0 f1 := fun b hb ht => by
  rw [o1 b (fun e => ht (by rw [e, hs]; exact hm))]
  exact h b hb ht
theorem FX_tr {S : Sg} {B B1 : Nat → Prop} {T T1 : List Nat} {f0 f f1 : Nat → va_E} (h : FX S B T f0 f) (h1 : FX S B1 T1 f f1) (hb : ∀ a, B1 a → B a) (ht : ∀ t ∈ T1, t ∈ T) : FX S B T f0 f1 := fun b nb nt => by
  rw [h1 b (fun e => nb (hb _ e)) (fun e => nt (ht _ e))]
  exact h b nb nt
theorem FX_trR {S : Sg} {B : Nat → Prop} {T T1 : List Nat} {f0 f f1 : Nat → va_E} (h : FX S B T f0 f) (h1 : FR S T1 f f1) (h0 : 0 ∉ T1 ∧ 1 ∉ T1) (ht : ∀ t ∈ T1, t ∈ T) : FX S B T f0 f1 := fun b nb nt => by
  rw [h1 b (fun e => nt (ht _ e))]
  exact h b nb nt
/-- the number a cell holds for a height -/
def cd (h : Int) : Int := if h = 0 then 0 else 4 * h + 3
theorem cd_0 {h : Int} (e : h = 0) : cd h = 0 := if_pos e
theorem cd_1 {h : Int} (e : h ≠ 0) : cd h = 4 * h + 3 := if_neg e
theorem cd_h {h : Int} : cd h / 4 = h ∨ h < 0 := by
  by_cases e : h = 0
  · rw [cd_0 e]; omega
  · rw [cd_1 e]; omega
def RC (c : Nat → Int32) (w : Int → Int) (n : Int) : Prop := ∀ i : Int, 0 ≤ i → i < 2 * n → (c i.toNat).toInt = cd (w i)
/-- a row holds heights -/
def RWf (cI : ClassId) (jn : Nat) (S : Sg) (f : Nat → va_E) (b : Nat) (n : Int) (w : Int → Int) : Prop := ∃ (p N : Nat) (l : Int32) (c : Nat → Int32), S b = (0, p, N) ∧ S p = (1, N, b) ∧ f b = .inr (5, [.int (nI jn), .int (nI (2 * jn)), .ref p, .int l]) ∧ f p = .inl (cI, N, .inl c) ∧ l.toInt = n ∧ RC c w n
theorem RWf_at {cI : ClassId} {jn : Nat} {S : Sg} {f : Nat → va_E} {b p N : Nat} {n : Int} {w : Int → Int} {l : Int32} {c : Nat → Int32} (h : RWf cI jn S f b n w) (hs : S b = (0, p, N)) (h1 : f b = .inr (5, [.int (nI jn), .int (nI (2 * jn)), .ref p, .int l])) (h2 : f p = .inl (cI, N, .inl c)) : l.toInt = n ∧ RC c w n := by
  obtain ⟨p9, N9, l9, c9, a1, a2, a3, a4, a5, a6⟩ := h
  rw [hs] at a1
  cases a1
  rw [h1] at a3
  rw [h2] at a4
  cases a3
  cases a4
  exact ⟨a5, a6⟩
theorem RWf_fx {cI : ClassId} {jn : Nat} {S : Sg} {B : Nat → Prop} {T : List Nat} {f f1 : Nat → va_E} {b : Nat} {n : Int} {w : Int → Int} (h : RWf cI jn S f b n w) (hf : FX S B T f f1) (hb : ¬ B b) (ht : 0 ∉ T ∧ 1 ∉ T) : RWf cI jn S f1 b n w := by
  obtain ⟨p9, N9, l9, c9, a1, a2, a3, a4, a5, a6⟩ := h
  refine ⟨p9, N9, l9, c9, a1, a2, ?_, ?_, a5, a6⟩
  · rw [hf b (by rw [own_0 a1]; exact hb) (by rw [a1]; exact ht.1)]; exact a3
  · rw [hf p9 (by rw [own_1 a2]; exact hb) (by rw [a2]; exact ht.2)]; exact a4
theorem RWf_c {cI : ClassId} {jn : Nat} {S : Sg} {f : Nat → va_E} {b : Nat} {n : Int} {w u : Int → Int} (h : RWf cI jn S f b n w) (e : ∀ i : Int, 0 ≤ i → i < 2 * n → w i = u i) : RWf cI jn S f b n u := by
  obtain ⟨p9, N9, l9, c9, a1, a2, a3, a4, a5, a6⟩ := h
  exact ⟨p9, N9, l9, c9, a1, a2, a3, a4, a5, fun i i0 i1 => by rw [← e i i0 i1]; exact a6 i i0 i1⟩
theorem RC_w {N : Nat} {c : Nat → Int32} {w : Int → Int} {n : Int} {jn : Nat} (h : RC c w n) (ho : cOK jn N c) (hn : 2 * n ≤ N) {i : Int} (i0 : 0 ≤ i) (i1 : i < 2 * n) : 0 ≤ w i ∧ w i ≤ 9 := by
  have h1 := h i i0 i1
  have h2 := ho i i0 (by omega)
  by_cases e : w i = 0
  · omega
  · rw [cd_1 e] at h1; omega
theorem fm_e {x y z : Int} (hy : 0 < y) (hz : z = x.tmod y) : (0 ≤ z → x % y = z) ∧ (z < 0 → x % y = z + y) := by
  have e : x.tmod y = x - y * x.tdiv y := Int.tmod_def x y
  have b1 := Int.tmod_lt_of_pos x hy
  have b2 : -y < x.tmod y := by
    have := Int.tmod_lt_of_pos (-x) hy
    rw [Int.neg_tmod] at this
    omega
  refine ⟨fun h => md_u (k := x.tdiv y) h (by omega) (by omega), fun h => md_u (k := x.tdiv y - 1) (by omega) (by omega) ?_⟩
  rw [Int.mul_sub]
  omega
theorem put_gt {c : Nat → Int32} {w : Int → Int} {n x h : Int} {v code : Int32} (hc : RC c w n) (h0 : 0 ≤ x) (h1 : x < n) (hh : 0 < h) (hv : v = c (2 * x).toNat) (hcd : code.toInt = 4 * h + 3) : RC (upd (upd c (2 * x + 1).toNat v) (2 * x).toNat code) (fupd (fupd w (2 * x + 1) (w (2 * x))) (2 * x) h) n := by
  intro i i0 i1
  by_cases e : i = 2 * x
  · rw [e, pk_us, fu_s, hcd, cd_1 (by omega)]
  · rw [un_i i0 (by omega) e, fu_n e]
    by_cases e2 : i = 2 * x + 1
    · rw [e2, pk_us, fu_s, hv]; exact hc _ (by omega) (by omega)
    · rw [un_i i0 (by omega) e2, fu_n e2]; exact hc i i0 i1
theorem put_le {c : Nat → Int32} {w : Int → Int} {n x h : Int} {code : Int32} (hc : RC c w n) (h0 : 0 ≤ x) (h1 : x < n) (hh : 0 < h) (hcd : code.toInt = 4 * h + 3) : RC (upd c (2 * x + 1).toNat code) (fupd w (2 * x + 1) h) n := by
  intro i i0 i1
  by_cases e2 : i = 2 * x + 1
  · rw [e2, pk_us, fu_s, hcd, cd_1 (by omega)]
  · rw [un_i i0 (by omega) e2, fu_n e2]; exact hc i i0 i1
theorem ins_a {w : Int → Int} {x h : Int} (h0 : h ≠ 0) (h1 : w (2 * x + 1) = 0) (h2 : w (2 * x) < h) : insW w x h = some (fupd (fupd w (2 * x + 1) (w (2 * x))) (2 * x) h) := by
  unfold insW
  rw [if_neg h0, if_neg (by omega), if_pos h2]
theorem ins_b {w : Int → Int} {x h : Int} (h0 : h ≠ 0) (h1 : w (2 * x + 1) = 0) (h2 : ¬ w (2 * x) < h) : insW w x h = some (fupd w (2 * x + 1) h) := by
  unfold insW
  rw [if_neg h0, if_neg (by omega), if_neg h2]
theorem ins_n {w : Int → Int} {x h : Int} (h0 : h ≠ 0) (h1 : w (2 * x + 1) ≠ 0) : insW w x h = none := by
  unfold insW
  rw [if_neg h0, if_pos h1]
theorem RC_app {c d e : Nat → Int32} {w u : Int → Int} {n m x y : Int} (hc : RC c w n) (hd : RC d u m) (hn : 0 ≤ n) (hx : 0 ≤ x) (hxy : x ≤ y) (hym : y ≤ m) (he : e = va_cpy d c (2 * x).toNat (2 * n).toNat (2 * (y - x)).toNat) : RC e (fun j => if j < 2 * n then w j else u (2 * x + (j - 2 * n))) (n + (y - x)) := by
  intro i i0 i1
  show _ = cd (if i < 2 * n then w i else u (2 * x + (i - 2 * n)))
  rw [he]
  by_cases q : i < 2 * n
  · rw [if_pos q]
    unfold va_cpy
    rw [if_neg (by omega)]
    exact hc i i0 q
  · rw [if_neg q]
    unfold va_cpy
    rw [if_pos (by omega)]
    have := hd (2 * x + (i - 2 * n)) (by omega) (by omega)
    rw [show (2 * x).toNat + (i.toNat - (2 * n).toNat) = (2 * x + (i - 2 * n)).toNat by omega]
    exact this
set_option maxRecDepth 100000 in
set_option maxHeartbeats 4000000 in
theorem t_J9_floorMod2 (l : Launch) (D : va_G) (cI cR cM : ClassId) (sz : Nat) {x y : Int32}  (hy : 0 < y.toInt) : Met l yJ9_floorMod_7cf53 wsJ9_floorMod_7cf53 ({ frames := 0, cells := 0, slots := 0, locals := 0 }) (P0 D cI cR cM [.int x, .int y] sz []) (QP (fun r => (0 ≤ r.toInt ∧ r.toInt < y.toInt) ∧ (r.toInt = x.toInt % y.toInt)) sz) 0 0 (va_A [] sz) := by
  refine goF (cc := cJ9_floorMod_7cf53) (maxL := 3) (ret := (some .int)) (by decide +kernel) rfl (Nat.le_of_ble_eq_true rfl) ?_
  intro p e s m below meth c ls args Q hQ hsz hx hb hr hml hts hown hlocks hnm hP hK hD hl
  subst hsz
  have hS : va_S (va_A [] s.heap.size) s.heap s.heap [] := va_S.rf
  have hA : ∀ q, s.heap.size ≤ q → va_A [] s.heap.size q := fun q h => Or.inr h
  have hl : lv_has ls 3 [(0, .int x), (1, .int y)] := hl
  have hy2 := i_lt y
  refine lv_iload_n hx hb dJ9_floorMod_7cf53_0 rfl (lv_at hl 0 rfl) ?_
  refine lv_iload_n hx hb dJ9_floorMod_7cf53_1 rfl (lv_at hl 1 rfl) ?_
  refine a_iremS (u := x.toInt) (v := y.toInt) hx hb dJ9_floorMod_7cf53_2 (rfl) (rfl) (by omega) (fun z_1 e_1 h_1 k_1 => ?_)
  obtain ⟨t1_1, t2_1⟩ := tm_sign x.toInt (v := y.toInt) (by omega)
  rw [← e_1] at t1_1 t2_1
  obtain ⟨fm1, fm2⟩ := fm_e (x := x.toInt) (y := y.toInt) (z := z_1.toInt) hy e_1
  refine lv_istore_n (lv' := [(2, .int z_1), (0, .int x), (1, .int y)]) hx hb dJ9_floorMod_7cf53_3 rfl hl (by decide) rfl (fun ls hl => ?_)
  refine lv_iload_n hx hb dJ9_floorMod_7cf53_4 rfl (lv_at hl 1 rfl) ?_
  refine lv_iload_n hx hb dJ9_floorMod_7cf53_5 rfl (lv_at hl 2 rfl) ?_
  refine lv_ixor hx hb dJ9_floorMod_7cf53_6 ?_
  refine lv_topi (fun z_2 q_2 => ?_)
  have ex : (z_2.toInt < 0 ↔ x.toInt < 0) := by rw [q_2]; exact xor_neg hy
  refine a_if_ge (u := z_2.toInt) (tgt := 18) hx hb dJ9_floorMod_7cf53_7 (by decide) (rfl) (fun c_3 => ?_) (fun c_3 => ?_)
  · refine lv_iload_n hx hb dJ9_floorMod_7cf53_18 rfl (lv_at hl 0 rfl) ?_
    exact rp_iret hx hb hr hlocks hS (⟨show 0 ≤ z_1.toInt ∧ z_1.toInt < y.toInt from (by first | assumption | omega), show z_1.toInt = x.toInt % y.toInt from (by first | assumption | omega)⟩) hQ dJ9_floorMod_7cf53_19
  · refine lv_iload_n hx hb dJ9_floorMod_7cf53_10 rfl (lv_at hl 0 rfl) ?_
    refine a_if_eq (u := z_1.toInt) (tgt := 18) hx hb dJ9_floorMod_7cf53_11 (by decide) (rfl) (fun c_4 => ?_) (fun c_4 => ?_)
    · refine lv_iload_n hx hb dJ9_floorMod_7cf53_18 rfl (lv_at hl 0 rfl) ?_
      exact rp_iret hx hb hr hlocks hS (⟨show 0 ≤ z_1.toInt ∧ z_1.toInt < y.toInt from (by first | assumption | omega), show z_1.toInt = x.toInt % y.toInt from (by first | assumption | omega)⟩) hQ dJ9_floorMod_7cf53_19
    · refine lv_iload_n hx hb dJ9_floorMod_7cf53_14 rfl (lv_at hl 0 rfl) ?_
      refine lv_iload_n hx hb dJ9_floorMod_7cf53_15 rfl (lv_at hl 2 rfl) ?_
      refine a_iadd (u := z_1.toInt) (v := y.toInt) hx hb dJ9_floorMod_7cf53_16 (rfl) (rfl) (by omega) (fun z_5 e_5 => ?_)
      exact rp_iret hx hb hr hlocks hS (⟨show 0 ≤ z_5.toInt ∧ z_5.toInt < y.toInt from (by first | assumption | omega), show z_5.toInt = x.toInt % y.toInt from (by first | assumption | omega)⟩) hQ dJ9_floorMod_7cf53_17
set_option maxRecDepth 100000 in
set_option maxHeartbeats 4000000 in
theorem t_X5_heightm (l : Launch) (D : va_G) (cI cR cM : ClassId) (sz : Nat) {jn : Nat} {g : Nat → Nat} {L : List Nat} {S : Sg} {f : Nat → va_E} {b b_p b_n : Nat} {b_l : Int32} {b_c : Nat → Int32} {x : Int32} {w : Int → Int} (hj : 1 ≤ jn ∧ jn ≤ 3) (hG : SG g L S) (hI : IN jn cI cR cM g L S f) (m_b : b ∈ L) (s_b : S b = (0, b_p, b_n)) (f_b : f b = .inr (5, [.int (nI jn), .int (nI (2 * jn)), .ref b_p, .int b_l])) (f_b_p : f b_p = .inl (cI, b_n, .inl b_c)) (hj1 : jn = 1) (hx0 : 0 ≤ x.toInt ∧ x.toInt < 2 * b_l.toInt) (hw : RC b_c w b_l.toInt) : Met l yX5_height wsX5_height ({ frames := 0, cells := 0, slots := 0, locals := 0 }) (P0 D cI cR cM [.ref b, .int x] sz (va_pl L f)) (QP (fun r => (r.toInt = w x.toInt) ∧ (0 ≤ r.toInt ∧ r.toInt ≤ 9)) sz) 0 0 (va_A [] sz) := by
  refine go (cc := cX5_height) (maxL := 2) (ret := (some .int)) (by decide +kernel) rfl (Nat.le_of_ble_eq_true rfl) ?_
  intro p e s m below meth c ls args Q hQ hsz hx hb hr hml hts hown hlocks hnm hP hK hD hl
  subst hsz
  have hS : va_S (va_A [] s.heap.size) s.heap s.heap [] := va_S.rf
  have hA : ∀ q, s.heap.size ≤ q → va_A [] s.heap.size q := fun q h => Or.inr h
  have hl : lv_has ls 2 [(0, .ref b), (1, .int x)] := hl
  obtain ⟨v1_b, v2_b, v3_b, m_b_p, s_b_p⟩ := iv_0 hI m_b s_b f_b
  obtain ⟨w1_b, w2_b, w3_b, w4_b, w5_b⟩ := lenw hj v1_b v2_b v3_b
  have k_b := iv_1 hI m_b_p s_b_p f_b_p
  have hx1 := hw x.toInt hx0.1 hx0.2
  have hx2 := RC_w hw k_b (by subst hj1; omega) hx0.1 hx0.2
  have hx3 := cd_h (h := w x.toInt)
  refine lv_iload_n hx hb dX5_height_0 rfl (lv_at hl 1 rfl) ?_
  refine a_if_lt (u := x.toInt) (tgt := 13) hx hb dX5_height_1 (by decide) (rfl) (fun c_1 => ?_) (fun c_1 => ?_)
  · refine lv_iconst (v := 0) hx hb dX5_height_13 (by decide) ?_
    refine lv_goto (tgt := 25) hx hb dX5_height_14 (by decide) ?_
    have hz_2 : (0 : Int32).toInt = 0 := by decide
    exact rp_iret hx hb hr hlocks hS (⟨show (0 : Int32).toInt = w x.toInt from (by first | assumption | omega | (subst hj1; omega)), show 0 ≤ (0 : Int32).toInt ∧ (0 : Int32).toInt ≤ 9 from (by first | assumption | omega | (subst hj1; omega))⟩) hQ dX5_height_25
  · refine lv_iload_n hx hb dX5_height_4 rfl (lv_at hl 1 rfl) ?_
    refine lv_aload_n hx hb dX5_height_5 rfl (lv_at hl 0 rfl) ?_
    refine t_get (D := D) (L := L) (f := f) (ci := 5) (v := .ref b_p) (C := RX5) (T := TX5) (N := 4) hx hb hts (by decide +kernel) hown hK.1 hP m_b f_b rfl 2 (by decide) (hts (.fieldLink RX5 24 "JugglingHall$Row" "cells" "[I") (by decide +kernel)) (fun _ h9 => h9) rfl dX5_height_6 ?_
    refine t_alen (L := L) (f := f) (v := nI b_n) hx hb hK.1 hP m_b_p 0 f_b_p rfl rfl dX5_height_9 ?_
    refine a_icmp_lt (u := x.toInt) (v := (b_n : Int)) (tgt := 17) hx hb dX5_height_10 (by decide) (rfl) (nI_toInt (by subst hj1; omega)) (fun c_3 => ?_) (fun c_3 => ?_)
    · refine lv_aload_n hx hb dX5_height_17 rfl (lv_at hl 0 rfl) ?_
      refine t_get (D := D) (L := L) (f := f) (ci := 5) (v := .ref b_p) (C := RX5) (T := TX5) (N := 4) hx hb hts (by decide +kernel) hown hK.1 hP m_b f_b rfl 2 (by decide) (hts (.fieldLink RX5 24 "JugglingHall$Row" "cells" "[I") (by decide +kernel)) (fun _ h9 => h9) rfl dX5_height_18 ?_
      refine lv_iload_n hx hb dX5_height_21 rfl (lv_at hl 1 rfl) ?_
      refine t_iald (L := L) (f := f) (y := b_c) (u := x.toInt) hx hb hK.1 hP m_b_p 0 f_b_p rfl dX5_height_22 (rfl) (by subst hj1; omega) (fun z_4 q_4 e_4 => ?_)
      obtain ⟨a1_4, a2_4, a3_4⟩ := at_c k_b (i := x.toInt) (by subst hj1; omega) q_4
      have ez_4 : z_4.toInt = cd (w x.toInt) := by rw [q_4]; exact hx1
      refine lv_iconst (v := 2) hx hb dX5_height_23 (by decide) ?_
      refine lv_ishr hx hb dX5_height_24 ?_
      refine lv_topi (fun z_5 q_5 => ?_)
      have e_5 : z_5.toInt = z_4.toInt / 4 := by rw [q_5]; exact shr2 (by subst hj1; omega)
      exact rp_iret hx hb hr hlocks hS (⟨show z_5.toInt = w x.toInt from (by first | assumption | omega | (subst hj1; omega)), show 0 ≤ z_5.toInt ∧ z_5.toInt ≤ 9 from (by first | assumption | omega | (subst hj1; omega))⟩) hQ dX5_height_25
    · refine lv_iconst (v := 0) hx hb dX5_height_13 (by decide) ?_
      refine lv_goto (tgt := 25) hx hb dX5_height_14 (by decide) ?_
      have hz_6 : (0 : Int32).toInt = 0 := by decide
      exact rp_iret hx hb hr hlocks hS (⟨show (0 : Int32).toInt = w x.toInt from (by first | assumption | omega | (subst hj1; omega)), show 0 ≤ (0 : Int32).toInt ∧ (0 : Int32).toInt ≤ 9 from (by first | assumption | omega | (subst hj1; omega))⟩) hQ dX5_height_25
set_option maxRecDepth 100000 in
set_option maxHeartbeats 4000000 in
theorem t_X5_targetm (l : Launch) (D : va_G) (cI cR cM : ClassId) (sz : Nat) {jn : Nat} {g : Nat → Nat} {L : List Nat} {S : Sg} {f : Nat → va_E} {b b_p b_n : Nat} {b_l : Int32} {b_c : Nat → Int32} {x : Int32} {w : Int → Int} (hj : 1 ≤ jn ∧ jn ≤ 3) (hG : SG g L S) (hI : IN jn cI cR cM g L S f) (m_b : b ∈ L) (s_b : S b = (0, b_p, b_n)) (f_b : f b = .inr (5, [.int (nI jn), .int (nI (2 * jn)), .ref b_p, .int b_l])) (f_b_p : f b_p = .inl (cI, b_n, .inl b_c)) (hj1 : jn = 1) (hx0 : 0 ≤ x.toInt ∧ x.toInt < 2 * b_l.toInt) (hw : RC b_c w b_l.toInt) : Met l yX5_target wsX5_target ({ frames := 0, cells := 0, slots := 0, locals := 0 }) (P0 D cI cR cM [.ref b, .int x] sz (va_pl L f)) (QP (fun r => (w x.toInt ≠ 0 → r.toInt = 0) ∧ (0 ≤ r.toInt ∧ r.toInt ≤ 3)) sz) 0 0 (va_A [] sz) := by
  refine go (cc := cX5_target) (maxL := 2) (ret := (some .int)) (by decide +kernel) rfl (Nat.le_of_ble_eq_true rfl) ?_
  intro p e s m below meth c ls args Q hQ hsz hx hb hr hml hts hown hlocks hnm hP hK hD hl
  subst hsz
  have hS : va_S (va_A [] s.heap.size) s.heap s.heap [] := va_S.rf
  have hA : ∀ q, s.heap.size ≤ q → va_A [] s.heap.size q := fun q h => Or.inr h
  have hl : lv_has ls 2 [(0, .ref b), (1, .int x)] := hl
  obtain ⟨v1_b, v2_b, v3_b, m_b_p, s_b_p⟩ := iv_0 hI m_b s_b f_b
  obtain ⟨w1_b, w2_b, w3_b, w4_b, w5_b⟩ := lenw hj v1_b v2_b v3_b
  have k_b := iv_1 hI m_b_p s_b_p f_b_p
  have hx1 := hw x.toInt hx0.1 hx0.2
  refine lv_iload_n hx hb dX5_target_0 rfl (lv_at hl 1 rfl) ?_
  refine a_if_lt (u := x.toInt) (tgt := 13) hx hb dX5_target_1 (by decide) (rfl) (fun c_1 => ?_) (fun c_1 => ?_)
  · refine lv_iconst (v := 0) hx hb dX5_target_13 (by decide) ?_
    refine lv_goto (tgt := 27) hx hb dX5_target_14 (by decide) ?_
    have hz_2 : (0 : Int32).toInt = 0 := by decide
    exact rp_iret hx hb hr hlocks hS (⟨show w x.toInt ≠ 0 → (0 : Int32).toInt = 0 from (fun q9 => by rw [cd_1 q9] at *; subst hj1; omega), show 0 ≤ (0 : Int32).toInt ∧ (0 : Int32).toInt ≤ 3 from (by first | assumption | omega | (subst hj1; omega))⟩) hQ dX5_target_27
  · refine lv_iload_n hx hb dX5_target_4 rfl (lv_at hl 1 rfl) ?_
    refine lv_aload_n hx hb dX5_target_5 rfl (lv_at hl 0 rfl) ?_
    refine t_get (D := D) (L := L) (f := f) (ci := 5) (v := .ref b_p) (C := RX5) (T := TX5) (N := 4) hx hb hts (by decide +kernel) hown hK.1 hP m_b f_b rfl 2 (by decide) (hts (.fieldLink RX5 24 "JugglingHall$Row" "cells" "[I") (by decide +kernel)) (fun _ h9 => h9) rfl dX5_target_6 ?_
    refine t_alen (L := L) (f := f) (v := nI b_n) hx hb hK.1 hP m_b_p 0 f_b_p rfl rfl dX5_target_9 ?_
    refine a_icmp_lt (u := x.toInt) (v := (b_n : Int)) (tgt := 17) hx hb dX5_target_10 (by decide) (rfl) (nI_toInt (by subst hj1; omega)) (fun c_3 => ?_) (fun c_3 => ?_)
    · refine lv_iconst (v := 3) hx hb dX5_target_17 (by decide) ?_
      refine lv_aload_n hx hb dX5_target_18 rfl (lv_at hl 0 rfl) ?_
      refine t_get (D := D) (L := L) (f := f) (ci := 5) (v := .ref b_p) (C := RX5) (T := TX5) (N := 4) hx hb hts (by decide +kernel) hown hK.1 hP m_b f_b rfl 2 (by decide) (hts (.fieldLink RX5 24 "JugglingHall$Row" "cells" "[I") (by decide +kernel)) (fun _ h9 => h9) rfl dX5_target_19 ?_
      refine lv_iload_n hx hb dX5_target_22 rfl (lv_at hl 1 rfl) ?_
      refine t_iald (L := L) (f := f) (y := b_c) (u := x.toInt) hx hb hK.1 hP m_b_p 0 f_b_p rfl dX5_target_23 (rfl) (by subst hj1; omega) (fun z_4 q_4 e_4 => ?_)
      obtain ⟨a1_4, a2_4, a3_4⟩ := at_c k_b (i := x.toInt) (by subst hj1; omega) q_4
      have ez_4 : z_4.toInt = cd (w x.toInt) := by rw [q_4]; exact hx1
      refine lv_iconst (v := 3) hx hb dX5_target_24 (by decide) ?_
      refine lv_iand hx hb dX5_target_25 ?_
      refine lv_topi (fun z_5 q_5 => ?_)
      have e_5 : z_5.toInt = z_4.toInt % 4 := by rw [q_5]; exact and3 (by subst hj1; omega)
      refine a_isub (u := 3) (v := z_5.toInt) hx hb dX5_target_26 (by decide) (rfl) (by subst hj1; omega) (fun z_6 e_6 => ?_)
      exact rp_iret hx hb hr hlocks hS (⟨show w x.toInt ≠ 0 → z_6.toInt = 0 from (fun q9 => by rw [cd_1 q9] at *; subst hj1; omega), show 0 ≤ z_6.toInt ∧ z_6.toInt ≤ 3 from (by first | assumption | omega | (subst hj1; omega))⟩) hQ dX5_target_27
    · refine lv_iconst (v := 0) hx hb dX5_target_13 (by decide) ?_
      refine lv_goto (tgt := 27) hx hb dX5_target_14 (by decide) ?_
      have hz_7 : (0 : Int32).toInt = 0 := by decide
      exact rp_iret hx hb hr hlocks hS (⟨show w x.toInt ≠ 0 → (0 : Int32).toInt = 0 from (fun q9 => by rw [cd_1 q9] at *; subst hj1; omega), show 0 ≤ (0 : Int32).toInt ∧ (0 : Int32).toInt ≤ 3 from (by first | assumption | omega | (subst hj1; omega))⟩) hQ dX5_target_27
set_option maxRecDepth 100000 in
set_option maxHeartbeats 4000000 in
theorem t_X5_beatOfm (l : Launch) (D : va_G) (cI cR cM : ClassId) (sz : Nat) {jn : Nat} {g : Nat → Nat} {L : List Nat} {S : Sg} {f : Nat → va_E} {b b_p b_n : Nat} {b_l : Int32} {b_c : Nat → Int32} {x : Int32}  (hj : 1 ≤ jn ∧ jn ≤ 3) (hG : SG g L S) (hI : IN jn cI cR cM g L S f) (m_b : b ∈ L) (s_b : S b = (0, b_p, b_n)) (f_b : f b = .inr (5, [.int (nI jn), .int (nI (2 * jn)), .ref b_p, .int b_l])) (f_b_p : f b_p = .inl (cI, b_n, .inl b_c)) (hj1 : jn = 1) (hx0 : 0 ≤ x.toInt) : Met l yX5_beatOf wsX5_beatOf ({ frames := 0, cells := 0, slots := 0, locals := 0 }) (P0 D cI cR cM [.ref b, .int x] sz (va_pl L f)) (QP (fun r => (r.toInt = x.toInt / 2)) sz) 0 0 (va_A [] sz) := by
  refine go (cc := cX5_beatOf) (maxL := 2) (ret := (some .int)) (by decide +kernel) rfl (Nat.le_of_ble_eq_true rfl) ?_
  intro p e s m below meth c ls args Q hQ hsz hx hb hr hml hts hown hlocks hnm hP hK hD hl
  subst hsz
  have hS : va_S (va_A [] s.heap.size) s.heap s.heap [] := va_S.rf
  have hA : ∀ q, s.heap.size ≤ q → va_A [] s.heap.size q := fun q h => Or.inr h
  have hl : lv_has ls 2 [(0, .ref b), (1, .int x)] := hl
  obtain ⟨v1_b, v2_b, v3_b, m_b_p, s_b_p⟩ := iv_0 hI m_b s_b f_b
  obtain ⟨w1_b, w2_b, w3_b, w4_b, w5_b⟩ := lenw hj v1_b v2_b v3_b
  have k_b := iv_1 hI m_b_p s_b_p f_b_p
  refine lv_iload_n hx hb dX5_beatOf_0 rfl (lv_at hl 1 rfl) ?_
  refine lv_aload_n hx hb dX5_beatOf_1 rfl (lv_at hl 0 rfl) ?_
  refine t_get (D := D) (L := L) (f := f) (ci := 5) (v := .int (nI (2 * jn))) (C := RX5) (T := TX5) (N := 4) hx hb hts (by decide +kernel) hown hK.1 hP m_b f_b rfl 1 (by decide) (hts (.fieldLink RX5 21 "JugglingHall$Row" "width" "I") (by decide +kernel)) (fun _ h9 => h9) rfl dX5_beatOf_2 ?_
  refine lv_idiv hx hb dX5_beatOf_5 (i_ne (b := (2 * (jn : Int))) (w2 hj) (by subst hj1; omega)) ?_
  refine lv_topi (fun z_1 q_1 => ?_)
  have e_1 : z_1.toInt = x.toInt.tdiv (2 * (jn : Int)) := by rw [q_1]; exact i_divT (rfl) (w2 hj) (by subst hj1; omega)
  have t1_1 := td_sign x.toInt (v := (2 * (jn : Int))) (by subst hj1; omega)
  rw [← e_1] at t1_1
  exact rp_iret hx hb hr hlocks hS (show z_1.toInt = x.toInt / 2 from (by first | assumption | omega | (subst hj1; omega))) hQ dX5_beatOf_6
set_option maxRecDepth 100000 in
set_option maxHeartbeats 4000000 in
theorem t_X5_jugglerOfm (l : Launch) (D : va_G) (cI cR cM : ClassId) (sz : Nat) {jn : Nat} {g : Nat → Nat} {L : List Nat} {S : Sg} {f : Nat → va_E} {b b_p b_n : Nat} {b_l : Int32} {b_c : Nat → Int32} {x : Int32}  (hj : 1 ≤ jn ∧ jn ≤ 3) (hG : SG g L S) (hI : IN jn cI cR cM g L S f) (m_b : b ∈ L) (s_b : S b = (0, b_p, b_n)) (f_b : f b = .inr (5, [.int (nI jn), .int (nI (2 * jn)), .ref b_p, .int b_l])) (f_b_p : f b_p = .inl (cI, b_n, .inl b_c)) (hj1 : jn = 1) (hx0 : 0 ≤ x.toInt) : Met l yX5_jugglerOf wsX5_jugglerOf ({ frames := 0, cells := 0, slots := 0, locals := 0 }) (P0 D cI cR cM [.ref b, .int x] sz (va_pl L f)) (QP (fun r => (r.toInt = 0)) sz) 0 0 (va_A [] sz) := by
  refine go (cc := cX5_jugglerOf) (maxL := 2) (ret := (some .int)) (by decide +kernel) rfl (Nat.le_of_ble_eq_true rfl) ?_
  intro p e s m below meth c ls args Q hQ hsz hx hb hr hml hts hown hlocks hnm hP hK hD hl
  subst hsz
  have hS : va_S (va_A [] s.heap.size) s.heap s.heap [] := va_S.rf
  have hA : ∀ q, s.heap.size ≤ q → va_A [] s.heap.size q := fun q h => Or.inr h
  have hl : lv_has ls 2 [(0, .ref b), (1, .int x)] := hl
  obtain ⟨v1_b, v2_b, v3_b, m_b_p, s_b_p⟩ := iv_0 hI m_b s_b f_b
  obtain ⟨w1_b, w2_b, w3_b, w4_b, w5_b⟩ := lenw hj v1_b v2_b v3_b
  have k_b := iv_1 hI m_b_p s_b_p f_b_p
  refine lv_iload_n hx hb dX5_jugglerOf_0 rfl (lv_at hl 1 rfl) ?_
  refine lv_aload_n hx hb dX5_jugglerOf_1 rfl (lv_at hl 0 rfl) ?_
  refine t_get (D := D) (L := L) (f := f) (ci := 5) (v := .int (nI (2 * jn))) (C := RX5) (T := TX5) (N := 4) hx hb hts (by decide +kernel) hown hK.1 hP m_b f_b rfl 1 (by decide) (hts (.fieldLink RX5 21 "JugglingHall$Row" "width" "I") (by decide +kernel)) (fun _ h9 => h9) rfl dX5_jugglerOf_2 ?_
  refine a_iremS (u := x.toInt) (v := (2 * (jn : Int))) hx hb dX5_jugglerOf_5 (rfl) (w2 hj) (by subst hj1; omega) (fun z_1 e_1 h_1 k_1 => ?_)
  obtain ⟨t1_1, t2_1⟩ := tm_sign x.toInt (v := (2 * (jn : Int))) (by subst hj1; omega)
  rw [← e_1] at t1_1 t2_1
  refine lv_iconst (v := 2) hx hb dX5_jugglerOf_6 (by decide) ?_
  refine lv_idiv hx hb dX5_jugglerOf_7 (i_ne (b := 2) (by decide) (by subst hj1; omega)) ?_
  refine lv_topi (fun z_2 q_2 => ?_)
  have e_2 : z_2.toInt = z_1.toInt.tdiv 2 := by rw [q_2]; exact i_divT (rfl) (by decide) (by subst hj1; omega)
  have t1_2 := td_sign z_1.toInt (v := 2) (by subst hj1; omega)
  rw [← e_2] at t1_2
  exact rp_iret hx hb hr hlocks hS (show z_2.toInt = 0 from (by first | assumption | omega | (subst hj1; omega))) hQ dX5_jugglerOf_8
set_option maxRecDepth 100000 in
set_option maxHeartbeats 4000000 in
theorem t_X5_beatInRoundm (l : Launch) (D : va_G) (cI cR cM : ClassId) (sz : Nat) {jn : Nat} {g : Nat → Nat} {L : List Nat} {S : Sg} {f : Nat → va_E} {b b_p b_n : Nat} {b_l : Int32} {b_c : Nat → Int32} {x : Int32}  (hj : 1 ≤ jn ∧ jn ≤ 3) (hG : SG g L S) (hI : IN jn cI cR cM g L S f) (m_b : b ∈ L) (s_b : S b = (0, b_p, b_n)) (f_b : f b = .inr (5, [.int (nI jn), .int (nI (2 * jn)), .ref b_p, .int b_l])) (f_b_p : f b_p = .inl (cI, b_n, .inl b_c)) (hj1 : jn = 1) (hl : 1 ≤ b_l.toInt) : Met l yX5_beatInRound wsX5_beatInRound ({ frames := 1, cells := 0, slots := 0, locals := 22 }) (P0 D cI cR cM [.ref b, .int x] sz (va_pl L f)) (QP (fun r => (r.toInt = x.toInt % b_l.toInt) ∧ (0 ≤ r.toInt ∧ r.toInt < b_l.toInt)) sz) 0 0 (va_A [] sz) := by
  refine go (cc := cX5_beatInRound) (maxL := 2) (ret := (some .int)) (by decide +kernel) rfl (Nat.le_of_ble_eq_true rfl) ?_
  intro p e s m below meth c ls args Q hQ hsz hx hb hr hml hts hown hlocks hnm hP hK hD hl
  subst hsz
  have hS : va_S (va_A [] s.heap.size) s.heap s.heap [] := va_S.rf
  have hA : ∀ q, s.heap.size ≤ q → va_A [] s.heap.size q := fun q h => Or.inr h
  have hl : lv_has ls 2 [(0, .ref b), (1, .int x)] := hl
  obtain ⟨v1_b, v2_b, v3_b, m_b_p, s_b_p⟩ := iv_0 hI m_b s_b f_b
  obtain ⟨w1_b, w2_b, w3_b, w4_b, w5_b⟩ := lenw hj v1_b v2_b v3_b
  have k_b := iv_1 hI m_b_p s_b_p f_b_p
  refine lv_aload_n hx hb dX5_beatInRound_0 rfl (lv_at hl 0 rfl) ?_
  refine t_get (D := D) (L := L) (f := f) (ci := 5) (v := .int b_l) (C := RX5) (T := TX5) (N := 4) hx hb hts (by decide +kernel) hown hK.1 hP m_b f_b rfl 3 (by decide) (hts (.fieldLink RX5 28 "JugglingHall$Row" "length" "I") (by decide +kernel)) (fun _ h9 => h9) rfl dX5_beatInRound_1 ?_
  refine lv_iconst (v := 1) hx hb dX5_beatInRound_4 (by decide) ?_
  refine a_icmp_ge (u := b_l.toInt) (v := 1) (tgt := 12) hx hb dX5_beatInRound_5 (by decide) (rfl) (by decide) (fun c_1 => ?_) (fun c_1 => ?_)
  · refine lv_iload_n hx hb dX5_beatInRound_12 rfl (lv_at hl 1 rfl) ?_
    refine lv_aload_n hx hb dX5_beatInRound_13 rfl (lv_at hl 0 rfl) ?_
    refine t_get (D := D) (L := L) (f := f) (ci := 5) (v := .int b_l) (C := RX5) (T := TX5) (N := 4) hx hb hts (by decide +kernel) hown hK.1 hP m_b f_b rfl 3 (by decide) (hts (.fieldLink RX5 28 "JugglingHall$Row" "length" "I") (by decide +kernel)) (fun _ h9 => h9) rfl dX5_beatInRound_14 ?_
    refine roP (va_runS (As := [.int x, .int b_l]) (rest := []) ⟨hx, hb, hml, hown, hts⟩ (t_J9_floorMod2 l D cI cR cM _     (by first | assumption | omega | (subst hj1; omega))) (va_cwS 2 hts gX5_beatInRound_J9_floorMod_7cf53 rfl rfl rfl (by decide +kernel) ⟨Nat.le_of_ble_eq_true rfl, Nat.le_of_ble_eq_true rfl⟩) (pre_S hK va_P_nil (va_D_nil (A := fun _ => True))) rfl rfl hl.1 rfl (lv_room (Nat.le_of_ble_eq_true rfl)) dX5_beatInRound_17 ⟨Nat.le_of_ble_eq_true rfl, Nat.le_of_ble_eq_true rfl⟩) hS hA hP (fun r_2 H locs hw hP hS => ?_)
    obtain ⟨h_2, he_2⟩ : (0 ≤ r_2.toInt ∧ r_2.toInt < b_l.toInt) ∧ (r_2.toInt = x.toInt % b_l.toInt) := hw
    exact rp_iret hx hb hr hlocks hS (⟨show r_2.toInt = x.toInt % b_l.toInt from (by first | assumption | omega | (subst hj1; omega)), show 0 ≤ r_2.toInt ∧ r_2.toInt < b_l.toInt from (by first | assumption | omega | (subst hj1; omega))⟩) hQ dX5_beatInRound_20
  · refine lv_iconst (v := 0) hx hb dX5_beatInRound_8 (by decide) ?_
    refine lv_goto (tgt := 20) hx hb dX5_beatInRound_9 (by decide) ?_
    have hz_3 : (0 : Int32).toInt = 0 := by decide
    exact rp_iret hx hb hr hlocks hS (⟨show (0 : Int32).toInt = x.toInt % b_l.toInt from (by first | assumption | omega | (subst hj1; omega)), show 0 ≤ (0 : Int32).toInt ∧ (0 : Int32).toInt < b_l.toInt from (by first | assumption | omega | (subst hj1; omega))⟩) hQ dX5_beatInRound_20
set_option maxRecDepth 100000 in
set_option maxHeartbeats 4000000 in
theorem t_X5_cellCountm (l : Launch) (D : va_G) (cI cR cM : ClassId) (sz : Nat) {jn : Nat} {g : Nat → Nat} {L : List Nat} {S : Sg} {f : Nat → va_E} {b b_p b_n : Nat} {b_l : Int32} {b_c : Nat → Int32}  (hj : 1 ≤ jn ∧ jn ≤ 3) (hG : SG g L S) (hI : IN jn cI cR cM g L S f) (m_b : b ∈ L) (s_b : S b = (0, b_p, b_n)) (f_b : f b = .inr (5, [.int (nI jn), .int (nI (2 * jn)), .ref b_p, .int b_l])) (f_b_p : f b_p = .inl (cI, b_n, .inl b_c)) (hj1 : jn = 1) : Met l yX5_cellCount wsX5_cellCount ({ frames := 0, cells := 0, slots := 0, locals := 0 }) (P0 D cI cR cM [.ref b] sz (va_pl L f)) (QP (fun r => (r.toInt = 2 * b_l.toInt)) sz) 0 0 (va_A [] sz) := by
  refine go (cc := cX5_cellCount) (maxL := 1) (ret := (some .int)) (by decide +kernel) rfl (Nat.le_of_ble_eq_true rfl) ?_
  intro p e s m below meth c ls args Q hQ hsz hx hb hr hml hts hown hlocks hnm hP hK hD hl
  subst hsz
  have hS : va_S (va_A [] s.heap.size) s.heap s.heap [] := va_S.rf
  have hA : ∀ q, s.heap.size ≤ q → va_A [] s.heap.size q := fun q h => Or.inr h
  have hl : lv_has ls 1 [(0, .ref b)] := hl
  obtain ⟨v1_b, v2_b, v3_b, m_b_p, s_b_p⟩ := iv_0 hI m_b s_b f_b
  obtain ⟨w1_b, w2_b, w3_b, w4_b, w5_b⟩ := lenw hj v1_b v2_b v3_b
  have k_b := iv_1 hI m_b_p s_b_p f_b_p
  refine lv_aload_n hx hb dX5_cellCount_0 rfl (lv_at hl 0 rfl) ?_
  refine t_get (D := D) (L := L) (f := f) (ci := 5) (v := .int b_l) (C := RX5) (T := TX5) (N := 4) hx hb hts (by decide +kernel) hown hK.1 hP m_b f_b rfl 3 (by decide) (hts (.fieldLink RX5 28 "JugglingHall$Row" "length" "I") (by decide +kernel)) (fun _ h9 => h9) rfl dX5_cellCount_1 ?_
  refine lv_aload_n hx hb dX5_cellCount_4 rfl (lv_at hl 0 rfl) ?_
  refine t_get (D := D) (L := L) (f := f) (ci := 5) (v := .int (nI (2 * jn))) (C := RX5) (T := TX5) (N := 4) hx hb hts (by decide +kernel) hown hK.1 hP m_b f_b rfl 1 (by decide) (hts (.fieldLink RX5 21 "JugglingHall$Row" "width" "I") (by decide +kernel)) (fun _ h9 => h9) rfl dX5_cellCount_5 ?_
  refine a_imul (u := b_l.toInt) (v := (2 * (jn : Int))) hx hb dX5_cellCount_8 (rfl) (w2 hj) (by subst hj1; omega) (fun z_1 e_1 => ?_)
  exact rp_iret hx hb hr hlocks hS (show z_1.toInt = 2 * b_l.toInt from (by first | assumption | omega | (subst hj1; omega))) hQ dX5_cellCount_9
set_option maxRecDepth 100000 in
set_option maxHeartbeats 4000000 in
theorem t_X5_isPlainm (l : Launch) (D : va_G) (cI cR cM : ClassId) (sz : Nat) {jn : Nat} {g : Nat → Nat} {L : List Nat} {S : Sg} {f : Nat → va_E} {b b_p b_n : Nat} {b_l : Int32} {b_c : Nat → Int32} {w : Int → Int} (hj : 1 ≤ jn ∧ jn ≤ 3) (hG : SG g L S) (hI : IN jn cI cR cM g L S f) (m_b : b ∈ L) (s_b : S b = (0, b_p, b_n)) (f_b : f b = .inr (5, [.int (nI jn), .int (nI (2 * jn)), .ref b_p, .int b_l])) (f_b_p : f b_p = .inl (cI, b_n, .inl b_c)) (hj1 : jn = 1) (hw : RC b_c w b_l.toInt) : Met l yX5_isPlain wsX5_isPlain ({ frames := 0, cells := 0, slots := 0, locals := 0 }) (P0 D cI cR cM [.ref b] sz (va_pl L f)) (QP (fun r => ((r.toInt = 1 ∧ plW w 0 b_l.toInt) ∨ (r.toInt = 0 ∧ ¬ plW w 0 b_l.toInt)) ∧ (r.toInt = 0 ∨ r.toInt = 1)) sz) 0 0 (va_A [] sz) := by
  refine go (cc := cX5_isPlain) (maxL := 2) (ret := (some .boolean)) (by decide +kernel) rfl (Nat.le_of_ble_eq_true rfl) ?_
  intro p e s m below meth c ls args Q hQ hsz hx hb hr hml hts hown hlocks hnm hP hK hD hl
  subst hsz
  have hS : va_S (va_A [] s.heap.size) s.heap s.heap [] := va_S.rf
  have hA : ∀ q, s.heap.size ≤ q → va_A [] s.heap.size q := fun q h => Or.inr h
  have hl : lv_has ls 2 [(0, .ref b)] := hl
  obtain ⟨v1_b, v2_b, v3_b, m_b_p, s_b_p⟩ := iv_0 hI m_b s_b f_b
  obtain ⟨w1_b, w2_b, w3_b, w4_b, w5_b⟩ := lenw hj v1_b v2_b v3_b
  have k_b := iv_1 hI m_b_p s_b_p f_b_p
  refine lv_aload_n hx hb dX5_isPlain_0 rfl (lv_at hl 0 rfl) ?_
  refine t_get (D := D) (L := L) (f := f) (ci := 5) (v := .int (nI jn)) (C := RX5) (T := TX5) (N := 4) hx hb hts (by decide +kernel) hown hK.1 hP m_b f_b rfl 0 (by decide) (hts (.fieldLink RX5 15 "JugglingHall$Row" "jugglers" "I") (by decide +kernel)) (fun _ h9 => h9) rfl dX5_isPlain_1 ?_
  refine lv_iconst (v := 1) hx hb dX5_isPlain_4 (by decide) ?_
  refine a_icmp_eq (u := (jn : Int)) (v := 1) (tgt := 10) hx hb dX5_isPlain_5 (by decide) (nI_toInt (by subst hj1; omega)) (by decide) (fun c_1 => ?_) (fun c_1 => ?_)
  · refine lv_iconst (v := 0) hx hb dX5_isPlain_10 (by decide) ?_
    refine lv_istore_n (lv' := [(1, .int 0), (0, .ref b)]) hx hb dX5_isPlain_11 rfl hl (by decide) rfl (fun ls hl => ?_)
    have loop12 : ∀ (ddloop12 : Nat) (be : Int32) (H : Heap) (locs : List Loc) (ls : Array Slot), (100 - be.toInt).toNat < ddloop12 → (0 ≤ be.toInt ∧ be.toInt ≤ 72 ∧ be.toInt ≤ b_l.toInt) → (∀ b9 : Int, 0 ≤ b9 → b9 < be.toInt → w (2 * b9 + 1) = 0) → va_P D vwCl (va_pl L f) H → va_S (va_A [] s.heap.size) s.heap H locs → lv_has ls 2 [(0, .ref b), (1, .int be)] → W p l e ({ frames := 0, cells := 0, slots := 0, locals := 0 }) s m args below meth c H locs (0) (0) Q (F0 m 12 ls []) := by
      intro ddloop12
      induction ddloop12 with
      | zero =>
        intro be H locs ls hdd
        exact absurd hdd (Nat.not_lt_zero _)
      | succ ddloop12 ih12 =>
        intro be H locs ls hdd hi hpl hP hS hl
        refine lv_iload_n hx hb dX5_isPlain_12 rfl (lv_at hl 1 rfl) ?_
        refine lv_aload_n hx hb dX5_isPlain_13 rfl (lv_at hl 0 rfl) ?_
        refine t_get (D := D) (L := L) (f := f) (ci := 5) (v := .int b_l) (C := RX5) (T := TX5) (N := 4) hx hb hts (by decide +kernel) hown hK.1 hP m_b f_b rfl 3 (by decide) (hts (.fieldLink RX5 28 "JugglingHall$Row" "length" "I") (by decide +kernel)) (fun _ h9 => h9) rfl dX5_isPlain_14 ?_
        refine a_icmp_ge (u := be.toInt) (v := b_l.toInt) (tgt := 44) hx hb dX5_isPlain_17 (by decide) (rfl) (rfl) (fun c_3 => ?_) (fun c_3 => ?_)
        · refine lv_iconst (v := 1) hx hb dX5_isPlain_44 (by decide) ?_
          have hz_4 : (1 : Int32).toInt = 1 := by decide
          exact rp_zret hx hb hr hlocks hS (by first | exact Or.inl rfl | exact Or.inr rfl) (⟨show ((1 : Int32).toInt = 1 ∧ plW w 0 b_l.toInt) ∨ ((1 : Int32).toInt = 0 ∧ ¬ plW w 0 b_l.toInt) from (Or.inl ⟨rfl, fun b9 h8 h9 => by rw [Int.zero_add]; exact hpl b9 h8 (by subst hj1; omega)⟩), show (1 : Int32).toInt = 0 ∨ (1 : Int32).toInt = 1 from (by first | assumption | omega | (subst hj1; omega))⟩) hQ dX5_isPlain_45
        · refine lv_aload_n hx hb dX5_isPlain_20 rfl (lv_at hl 0 rfl) ?_
          refine t_get (D := D) (L := L) (f := f) (ci := 5) (v := .ref b_p) (C := RX5) (T := TX5) (N := 4) hx hb hts (by decide +kernel) hown hK.1 hP m_b f_b rfl 2 (by decide) (hts (.fieldLink RX5 24 "JugglingHall$Row" "cells" "[I") (by decide +kernel)) (fun _ h9 => h9) rfl dX5_isPlain_21 ?_
          refine lv_iload_n hx hb dX5_isPlain_24 rfl (lv_at hl 1 rfl) ?_
          refine lv_aload_n hx hb dX5_isPlain_25 rfl (lv_at hl 0 rfl) ?_
          refine t_get (D := D) (L := L) (f := f) (ci := 5) (v := .int (nI (2 * jn))) (C := RX5) (T := TX5) (N := 4) hx hb hts (by decide +kernel) hown hK.1 hP m_b f_b rfl 1 (by decide) (hts (.fieldLink RX5 21 "JugglingHall$Row" "width" "I") (by decide +kernel)) (fun _ h9 => h9) rfl dX5_isPlain_26 ?_
          refine a_imul (u := be.toInt) (v := (2 * (jn : Int))) hx hb dX5_isPlain_29 (rfl) (w2 hj) (by subst hj1; omega) (fun z_5 e_5 => ?_)
          refine lv_iconst (v := 1) hx hb dX5_isPlain_30 (by decide) ?_
          refine a_iadd (u := (be.toInt * (2 * (jn : Int)))) (v := 1) hx hb dX5_isPlain_31 (e_5) (by decide) (by subst hj1; omega) (fun z_6 e_6 => ?_)
          refine t_iald (L := L) (f := f) (y := b_c) (u := ((be.toInt * (2 * (jn : Int))) + 1)) hx hb hK.1 hP m_b_p 0 f_b_p rfl dX5_isPlain_32 (e_6) (by subst hj1; omega) (fun z_7 q_7 e_7 => ?_)
          obtain ⟨a1_7, a2_7, a3_7⟩ := at_c k_b (i := ((be.toInt * (2 * (jn : Int))) + 1)) (by subst hj1; omega) q_7
          refine a_if_eq (u := z_7.toInt) (tgt := 38) hx hb dX5_isPlain_33 (by decide) (rfl) (fun c_8 => ?_) (fun c_8 => ?_)
          · obtain ⟨z_9, q_9, e_9⟩ := i_inc (a := be.toInt) (1) (rfl) (by decide) (by subst hj1; omega) (by subst hj1; omega)
            refine lv_iinc (v := z_9) (lv' := [(1, .int z_9), (0, .ref b)]) hx hb dX5_isPlain_38 hl (k := 1) rfl q_9 (by decide) rfl (fun ls hl => ?_)
            refine lv_goto (tgt := 12) hx hb dX5_isPlain_41 (by decide) ?_
            exact ih12 z_9 _ _ _ (by subst hj1; omega) (by first | assumption | omega | (subst hj1; omega)) (fun b9 h8 h9 => by
              by_cases q9 : b9 = be.toInt
              · have h7 := hw (2 * b9 + 1) (by subst hj1; omega) (by subst hj1; omega)
                have h6 : z_7 = b_c (2 * b9 + 1).toNat := by rw [q_7, show ((be.toInt * (2 * (jn : Int))) + 1) = 2 * b9 + 1 by subst hj1; omega]
                rw [← h6] at h7
                have h5 := cd_h (h := w (2 * b9 + 1))
                have h4 := RC_w hw k_b (by subst hj1; omega) (i := 2 * b9 + 1) (by subst hj1; omega) (by subst hj1; omega)
                omega
              · exact hpl b9 h8 (by subst hj1; omega)) hP hS (lv_sub hl [1, 0] rfl)
          · refine lv_iconst (v := 0) hx hb dX5_isPlain_36 (by decide) ?_
            have hz_10 : (0 : Int32).toInt = 0 := by decide
            exact rp_zret hx hb hr hlocks hS (by first | exact Or.inl rfl | exact Or.inr rfl) (⟨show ((0 : Int32).toInt = 1 ∧ plW w 0 b_l.toInt) ∨ ((0 : Int32).toInt = 0 ∧ ¬ plW w 0 b_l.toInt) from (Or.inr ⟨rfl, fun q9 => by
              have h7 := q9 be.toInt (by subst hj1; omega) (by subst hj1; omega)
              rw [Int.zero_add] at h7
              have h8 := hw (2 * be.toInt + 1) (by subst hj1; omega) (by subst hj1; omega)
              rw [cd_0 h7] at h8
              have h6 : z_7 = b_c (2 * be.toInt + 1).toNat := by rw [q_7, show ((be.toInt * (2 * (jn : Int))) + 1) = 2 * be.toInt + 1 by subst hj1; omega]
              rw [← h6] at h8
              omega⟩), show (0 : Int32).toInt = 0 ∨ (0 : Int32).toInt = 1 from (by first | assumption | omega | (subst hj1; omega))⟩) hQ dX5_isPlain_37
    have hz_11 : (0 : Int32).toInt = 0 := by decide
    exact loop12 ((100 - (0 : Int32).toInt).toNat + 1) (0 : Int32) _ _ _ (by subst hj1; omega) (by first | assumption | omega | (subst hj1; omega)) (fun b9 h8 h9 => absurd h9 (by subst hj1; omega)) hP hS (lv_sub hl [1, 0] rfl)
  · refine lv_iconst (v := 0) hx hb dX5_isPlain_8 (by decide) ?_
    have hz_12 : (0 : Int32).toInt = 0 := by decide
    exact rp_zret hx hb hr hlocks hS (by first | exact Or.inl rfl | exact Or.inr rfl) (⟨show ((0 : Int32).toInt = 1 ∧ plW w 0 b_l.toInt) ∨ ((0 : Int32).toInt = 0 ∧ ¬ plW w 0 b_l.toInt) from (by exfalso; subst hj1; omega), show (0 : Int32).toInt = 0 ∨ (0 : Int32).toInt = 1 from (by first | assumption | omega | (subst hj1; omega))⟩) hQ dX5_isPlain_9
set_option maxRecDepth 100000 in
set_option maxHeartbeats 4000000 in
theorem t_X5_resetm (l : Launch) (D : va_G) (cI cR cM : ClassId) (sz : Nat) {jn : Nat} {g : Nat → Nat} {L : List Nat} {S : Sg} {f : Nat → va_E} {b b_p b_n : Nat} {b_l : Int32} {b_c : Nat → Int32} {x : Int32}  (hj : 1 ≤ jn ∧ jn ≤ 3) (hG : SG g L S) (hI : IN jn cI cR cM g L S f) (m_b : b ∈ L) (s_b : S b = (0, b_p, b_n)) (f_b : f b = .inr (5, [.int (nI jn), .int (nI (2 * jn)), .ref b_p, .int b_l])) (f_b_p : f b_p = .inl (cI, b_n, .inl b_c)) (hj1 : jn = 1) (hx0 : 0 ≤ x.toInt ∧ 2 * x.toInt ≤ (b_n : Int)) : Met l yX5_reset wsX5_reset ({ frames := 1, cells := 0, slots := 0, locals := 23 }) (P0 D cI cR cM [.ref b, .int x] sz (va_pl L f)) (QG (S := Nat → va_E) (fun u => none) (fun u => va_pl L u) (fun u => IN jn cI cR cM g L S u ∧ FR S [0, 1] f u ∧ (RWf cI jn S u b x.toInt (fun _ => 0)) ∧ (FX S (fun a9 => a9 = b) [] f u)) D (va_A (va_pl L f) sz)) 0 0 (va_A (va_pl L f) sz) := by
  refine go (cc := cX5_reset) (maxL := 2) (ret := none) (by decide +kernel) rfl (Nat.le_of_ble_eq_true rfl) ?_
  intro p e s m below meth c ls args Q hQ hsz hx hb hr hml hts hown hlocks hnm hP hK hD hl
  subst hsz
  have hD := hD.self (sz := s.heap.size)
  generalize hAe : va_A (va_pl L f) s.heap.size = A at hD hQ
  have hA : ∀ q, s.heap.size ≤ q → A q := fun q h => by rw [← hAe]; exact Or.inr h
  have hS : va_S A s.heap s.heap [] := va_S.rf
  have hFX : FX S (fun a9 => a9 = b) [] f f := FX_rf
  have hF : FR S [0, 1] f f := FR_rf
  have hl : lv_has ls 2 [(0, .ref b), (1, .int x)] := hl
  obtain ⟨v1_b, v2_b, v3_b, m_b_p, s_b_p⟩ := iv_0 hI m_b s_b f_b
  obtain ⟨w1_b, w2_b, w3_b, w4_b, w5_b⟩ := lenw hj v1_b v2_b v3_b
  have k_b := iv_1 hI m_b_p s_b_p f_b_p
  refine lv_aload_n hx hb dX5_reset_0 rfl (lv_at hl 0 rfl) ?_
  refine lv_iconst (v := 0) hx hb dX5_reset_1 (by decide) ?_
  refine lv_iload_n hx hb dX5_reset_2 rfl (lv_at hl 1 rfl) ?_
  refine lv_aload_n hx hb dX5_reset_3 rfl (lv_at hl 0 rfl) ?_
  refine t_get (D := D) (L := L) (f := f) (ci := 5) (v := .ref b_p) (C := RX5) (T := TX5) (N := 4) hx hb hts (by decide +kernel) hown hK.1 hP m_b f_b rfl 2 (by decide) (hts (.fieldLink RX5 24 "JugglingHall$Row" "cells" "[I") (by decide +kernel)) (fun _ h9 => h9) rfl dX5_reset_4 ?_
  refine t_alen (L := L) (f := f) (v := nI b_n) hx hb hK.1 hP m_b_p 0 f_b_p rfl rfl dX5_reset_7 ?_
  refine lv_aload_n hx hb dX5_reset_8 rfl (lv_at hl 0 rfl) ?_
  refine t_get (D := D) (L := L) (f := f) (ci := 5) (v := .int (nI (2 * jn))) (C := RX5) (T := TX5) (N := 4) hx hb hts (by decide +kernel) hown hK.1 hP m_b f_b rfl 1 (by decide) (hts (.fieldLink RX5 21 "JugglingHall$Row" "width" "I") (by decide +kernel)) (fun _ h9 => h9) rfl dX5_reset_9 ?_
  refine a_idiv (u := (b_n : Int)) (v := (2 * (jn : Int))) hx hb dX5_reset_12 (nI_toInt (by subst hj1; omega)) (w2 hj) (by subst hj1; omega) (fun z_1 e_1 => ?_)
  refine va_mmin hx hb (by rw [hml]; exact hl.1.symm) hown (hts (.methodLink RX5 57 Lib.Math.min.name) (by decide +kernel)) (hts (.static Lib.Math.min.name) (by decide +kernel)) (hts (.initialized "java/lang/Math") (by decide +kernel)) (hts (.code Lib.Math.min.name Lib.Math.min.code 2 (some .int)) (by decide +kernel)) (Nat.le_of_ble_eq_true rfl) (Nat.le_of_ble_eq_true rfl) (Nat.le_of_ble_eq_true rfl) (Nat.le_of_ble_eq_true rfl) dX5_reset_13 ?_
  refine lv_topi (fun z_2 q_2 => ?_)
  obtain ⟨e1_2, e2_2, e3_2⟩ := i_min (u := x.toInt) (v := ((b_n : Int) / (2 * (jn : Int)))) (rfl) (e_1) q_2
  refine va_mmax hx hb (by rw [hml]; exact hl.1.symm) hown (hts (.methodLink RX5 9 Lib.Math.max.name) (by decide +kernel)) (hts (.static Lib.Math.max.name) (by decide +kernel)) (hts (.initialized "java/lang/Math") (by decide +kernel)) (hts (.code Lib.Math.max.name Lib.Math.max.code 2 (some .int)) (by decide +kernel)) (Nat.le_of_ble_eq_true rfl) (Nat.le_of_ble_eq_true rfl) (Nat.le_of_ble_eq_true rfl) (Nat.le_of_ble_eq_true rfl) dX5_reset_16 ?_
  refine lv_topi (fun z_3 q_3 => ?_)
  obtain ⟨e1_3, e2_3, e3_3⟩ := i_max (u := 0) (v := z_2.toInt) (by decide) (rfl) q_3
  refine t_put (D := D) (L := L) (f := f) (ci := 5) (v := .int z_3) (ty := .int) (C := RX5) (T := TX5) (N := 4) hx hb hts (by decide +kernel) tyX5 tyX5_ok nmX5 hown hK.1 hP hD hS m_b f_b rfl 3 (by decide) (hts (.fieldLink RX5 28 "JugglingHall$Row" "length" "I") (by decide +kernel)) (fun _ h9 => h9) rfl (by decide +kernel) rfl rfl (Nat.le_of_ble_eq_true rfl) dX5_reset_19 (fun f_4 H locs e9_4 o_4 hP hD hS => ?_)
  have fa_4 : f_4 b = .inr (5, [.int (nI jn), .int (nI (2 * jn)), .ref b_p, .int z_3]) := e9_4
  have hI := IN_set (e := .inr (5, [.int (nI jn), .int (nI (2 * jn)), .ref b_p, .int z_3])) hI s_b (mk_0 (by first | assumption | omega | (subst hj1; omega)) (by first | assumption | omega | (subst hj1; omega)) (by first | assumption | omega | (subst hj1; omega)) (by first | assumption | omega | (subst hj1; omega)) (by first | assumption | omega | (subst hj1; omega))) fa_4 o_4
  have hF := FR_set hF s_b (show (0 : Nat) ∈ ([0, 1] : List Nat) by decide) o_4
  have hFX := FX_set0 hFX s_b (rfl) o_4
  have fb_5 : f_4 b_p = .inl (cI, b_n, .inl b_c) := f_at o_4 (S_ne s_b_p s_b (show (1 : Nat) ≠ 0 by decide)) f_b_p
  refine lv_aload_n hx hb dX5_reset_22 rfl (lv_at hl 0 rfl) ?_
  refine t_get (D := D) (L := L) (f := f_4) (ci := 5) (v := .ref b_p) (C := RX5) (T := TX5) (N := 4) hx hb hts (by decide +kernel) hown hK.1 hP m_b fa_4 rfl 2 (by decide) (hts (.fieldLink RX5 24 "JugglingHall$Row" "cells" "[I") (by decide +kernel)) (fun _ h9 => h9) rfl dX5_reset_23 ?_
  refine lv_iconst (v := 0) hx hb dX5_reset_26 (by decide) ?_
  have hP1 := p_one hP m_b_p fb_5
  have hD1 := d_one b_p (.inl (cI, b_n, .inl b_c))
  refine call_1 (f := f_4) (w1 := fun k9 => .inl (cI, b_n, .inl k9)) (va_runS (As := [.ref b_p, .int 0]) (rest := []) ⟨hx, hb, hml, hown, hts⟩ (c_fill l D cI cR cM _ (n := b_n) (by subst hj1; omega) b_c b_p (0 : Int32)) (va_cwS 2 hts gX5_reset_J7_fill_53178 rfl rfl rfl (by decide +kernel) ⟨Nat.le_of_ble_eq_true rfl, Nat.le_of_ble_eq_true rfl⟩) (pre_S hK hP1 hD1) rfl rfl hl.1 rfl (lv_room (Nat.le_of_ble_eq_true rfl)) dX5_reset_27 ⟨Nat.le_of_ble_eq_true rfl, Nat.le_of_ble_eq_true rfl⟩) hP hD hS hA m_b_p (fun g_6 f_6 H locs hw_6 e9_6 o_6 hP hD hS => ?_)
  have hw_6 : ∀ j, j < b_n → g_6 j = (0 : Int32) := hw_6
  have ok_6 : cOK jn b_n g_6 := cOK_0 hw_6
  have fa_6 : f_6 b_p = .inl (cI, b_n, .inl g_6) := e9_6
  have hI := IN_set (e := .inl (cI, b_n, .inl g_6)) hI s_b_p (mk_1 ok_6) fa_6 o_6
  have hF := FR_set hF s_b_p (show (1 : Nat) ∈ ([0, 1] : List Nat) by decide) o_6
  have hFX := FX_set1 hFX s_b_p (rfl) o_6
  have fb_7 : f_6 b = .inr (5, [.int (nI jn), .int (nI (2 * jn)), .ref b_p, .int z_3]) := f_at o_6 (S_ne s_b s_b_p (show (0 : Nat) ≠ 1 by decide)) fa_4
  exact g_vret f_6 hx hb hr hlocks hS rfl (⟨hI, hF, show RWf cI jn S f_6 b x.toInt (fun _ => 0) from (⟨b_p, b_n, _, _, s_b, s_b_p, fb_7, fa_6, by subst hj1; omega, fun i9 h8 h9 => by rw [hw_6 i9.toNat (by subst hj1; omega), cd_0 rfl]; rfl⟩), show FX S (fun a9 => a9 = b) [] f f_6 from (by first | assumption | omega | (subst hj1; omega))⟩) hP hD hQ (Nat.le_of_ble_eq_true rfl) (Nat.le_of_ble_eq_true rfl) dX5_reset_30
set_option maxRecDepth 100000 in
set_option maxHeartbeats 4000000 in
theorem t_X5_putm (l : Launch) (D : va_G) (cI cR cM : ClassId) (sz : Nat) {jn : Nat} {g : Nat → Nat} {L : List Nat} {S : Sg} {f : Nat → va_E} {b b_p b_n : Nat} {b_l : Int32} {b_c : Nat → Int32} {x y k t : Int32} {w : Int → Int} (hj : 1 ≤ jn ∧ jn ≤ 3) (hG : SG g L S) (hI : IN jn cI cR cM g L S f) (m_b : b ∈ L) (s_b : S b = (0, b_p, b_n)) (f_b : f b = .inr (5, [.int (nI jn), .int (nI (2 * jn)), .ref b_p, .int b_l])) (f_b_p : f b_p = .inl (cI, b_n, .inl b_c)) (hj1 : jn = 1) (hx0 : 0 ≤ x.toInt ∧ x.toInt < b_l.toInt) (hy0 : k.toInt = 0 ∨ (y.toInt = 0 ∧ t.toInt = 0)) (hk0 : 0 ≤ k.toInt ∧ k.toInt ≤ 9) (hw : RC b_c w b_l.toInt) : Met l yX5_put wsX5_put ({ frames := 0, cells := 0, slots := 0, locals := 0 }) (P0 D cI cR cM [.ref b, .int x, .int y, .int k, .int t] sz (va_pl L f)) (QG (S := Int32 × (Nat → va_E)) (fun u => some (.int u.1)) (fun u => va_pl L u.2) (fun u => IN jn cI cR cM g L S u.2 ∧ FR S [1] f u.2 ∧ ((u.1.toInt = 1 ∧ ∃ v9, insW w x.toInt k.toInt = some v9 ∧ RWf cI jn S u.2 b b_l.toInt v9) ∨ (u.1.toInt = 0 ∧ insW w x.toInt k.toInt = none)) ∧ (FX S (fun a9 => a9 = b) [] f u.2) ∧ (u.1.toInt = 0 ∨ u.1.toInt = 1)) D (va_A (va_pl L f) sz)) 0 0 (va_A (va_pl L f) sz) := by
  refine go (cc := cX5_put) (maxL := 7) (ret := (some .boolean)) (by decide +kernel) rfl (Nat.le_of_ble_eq_true rfl) ?_
  intro p e s m below meth c ls args Q hQ hsz hx hb hr hml hts hown hlocks hnm hP hK hD hl
  subst hsz
  have hD := hD.self (sz := s.heap.size)
  generalize hAe : va_A (va_pl L f) s.heap.size = A at hD hQ
  have hA : ∀ q, s.heap.size ≤ q → A q := fun q h => by rw [← hAe]; exact Or.inr h
  have hS : va_S A s.heap s.heap [] := va_S.rf
  have hFX : FX S (fun a9 => a9 = b) [] f f := FX_rf
  have hF : FR S [1] f f := FR_rf
  have hl : lv_has ls 7 [(0, .ref b), (1, .int x), (2, .int y), (3, .int k), (4, .int t)] := hl
  obtain ⟨v1_b, v2_b, v3_b, m_b_p, s_b_p⟩ := iv_0 hI m_b s_b f_b
  obtain ⟨w1_b, w2_b, w3_b, w4_b, w5_b⟩ := lenw hj v1_b v2_b v3_b
  have k_b := iv_1 hI m_b_p s_b_p f_b_p
  refine lv_iload_n hx hb dX5_put_0 rfl (lv_at hl 3 rfl) ?_
  refine a_if_ne (u := k.toInt) (tgt := 6) hx hb dX5_put_1 (by decide) (rfl) (fun c_1 => ?_) (fun c_1 => ?_)
  · refine lv_iload_n hx hb dX5_put_6 rfl (lv_at hl 1 rfl) ?_
    refine lv_aload_n hx hb dX5_put_7 rfl (lv_at hl 0 rfl) ?_
    refine t_get (D := D) (L := L) (f := f) (ci := 5) (v := .int (nI (2 * jn))) (C := RX5) (T := TX5) (N := 4) hx hb hts (by decide +kernel) hown hK.1 hP m_b f_b rfl 1 (by decide) (hts (.fieldLink RX5 21 "JugglingHall$Row" "width" "I") (by decide +kernel)) (fun _ h9 => h9) rfl dX5_put_8 ?_
    refine a_imul (u := x.toInt) (v := (2 * (jn : Int))) hx hb dX5_put_11 (rfl) (w2 hj) (by subst hj1; omega) (fun z_2 e_2 => ?_)
    refine lv_iload_n hx hb dX5_put_12 rfl (lv_at hl 2 rfl) ?_
    refine lv_iconst (v := 2) hx hb dX5_put_13 (by decide) ?_
    refine a_imul (u := y.toInt) (v := 2) hx hb dX5_put_14 (rfl) (by decide) (by subst hj1; omega) (fun z_3 e_3 => ?_)
    refine a_iadd (u := (x.toInt * (2 * (jn : Int)))) (v := (y.toInt * 2)) hx hb dX5_put_15 (e_2) (e_3) (by subst hj1; omega) (fun z_4 e_4 => ?_)
    refine lv_istore (lv' := [(5, .int z_4), (0, .ref b), (1, .int x), (2, .int y), (3, .int k), (4, .int t)]) hx hb dX5_put_16 hl (by decide) rfl (fun ls hl => ?_)
    refine lv_iload hx hb dX5_put_18 (lv_at hl 0 rfl) ?_
    refine a_if_lt (u := ((x.toInt * (2 * (jn : Int))) + (y.toInt * 2))) (tgt := 47) hx hb dX5_put_20 (by decide) (e_4) (fun c_5 => ?_) (fun c_5 => ?_)
    · refine lv_iconst (v := 0) hx hb dX5_put_47 (by decide) ?_
      have hz_6 : (0 : Int32).toInt = 0 := by decide
      exact g_zret ((0 : Int32), f) hx hb hr hlocks hS (by first | exact Or.inl rfl | exact Or.inr rfl) rfl (⟨hI, hF, show ((0 : Int32).toInt = 1 ∧ ∃ v9, insW w x.toInt k.toInt = some v9 ∧ RWf cI jn S f b b_l.toInt v9) ∨ ((0 : Int32).toInt = 0 ∧ insW w x.toInt k.toInt = none) from (by exfalso; subst hj1; omega), show FX S (fun a9 => a9 = b) [] f f from (by first | assumption | omega | (subst hj1; omega)), show (0 : Int32).toInt = 0 ∨ (0 : Int32).toInt = 1 from (by first | assumption | omega | (subst hj1; omega))⟩) hP hD hQ (Nat.le_of_ble_eq_true rfl) (Nat.le_of_ble_eq_true rfl) dX5_put_48
    · refine lv_iload hx hb dX5_put_23 (lv_at hl 0 rfl) ?_
      refine lv_iconst (v := 1) hx hb dX5_put_25 (by decide) ?_
      refine a_iadd (u := ((x.toInt * (2 * (jn : Int))) + (y.toInt * 2))) (v := 1) hx hb dX5_put_26 (e_4) (by decide) (by subst hj1; omega) (fun z_7 e_7 => ?_)
      refine lv_aload_n hx hb dX5_put_27 rfl (lv_at hl 1 rfl) ?_
      refine t_get (D := D) (L := L) (f := f) (ci := 5) (v := .ref b_p) (C := RX5) (T := TX5) (N := 4) hx hb hts (by decide +kernel) hown hK.1 hP m_b f_b rfl 2 (by decide) (hts (.fieldLink RX5 24 "JugglingHall$Row" "cells" "[I") (by decide +kernel)) (fun _ h9 => h9) rfl dX5_put_28 ?_
      refine t_alen (L := L) (f := f) (v := nI b_n) hx hb hK.1 hP m_b_p 0 f_b_p rfl rfl dX5_put_31 ?_
      refine a_icmp_ge (u := z_7.toInt) (v := (b_n : Int)) (tgt := 47) hx hb dX5_put_32 (by decide) (rfl) (nI_toInt (by subst hj1; omega)) (fun c_8 => ?_) (fun c_8 => ?_)
      · refine lv_iconst (v := 0) hx hb dX5_put_47 (by decide) ?_
        have hz_9 : (0 : Int32).toInt = 0 := by decide
        exact g_zret ((0 : Int32), f) hx hb hr hlocks hS (by first | exact Or.inl rfl | exact Or.inr rfl) rfl (⟨hI, hF, show ((0 : Int32).toInt = 1 ∧ ∃ v9, insW w x.toInt k.toInt = some v9 ∧ RWf cI jn S f b b_l.toInt v9) ∨ ((0 : Int32).toInt = 0 ∧ insW w x.toInt k.toInt = none) from (by exfalso; subst hj1; omega), show FX S (fun a9 => a9 = b) [] f f from (by first | assumption | omega | (subst hj1; omega)), show (0 : Int32).toInt = 0 ∨ (0 : Int32).toInt = 1 from (by first | assumption | omega | (subst hj1; omega))⟩) hP hD hQ (Nat.le_of_ble_eq_true rfl) (Nat.le_of_ble_eq_true rfl) dX5_put_48
      · refine lv_aload_n hx hb dX5_put_35 rfl (lv_at hl 1 rfl) ?_
        refine t_get (D := D) (L := L) (f := f) (ci := 5) (v := .ref b_p) (C := RX5) (T := TX5) (N := 4) hx hb hts (by decide +kernel) hown hK.1 hP m_b f_b rfl 2 (by decide) (hts (.fieldLink RX5 24 "JugglingHall$Row" "cells" "[I") (by decide +kernel)) (fun _ h9 => h9) rfl dX5_put_36 ?_
        refine lv_iload hx hb dX5_put_39 (lv_at hl 0 rfl) ?_
        refine lv_iconst (v := 1) hx hb dX5_put_41 (by decide) ?_
        refine a_iadd (u := ((x.toInt * (2 * (jn : Int))) + (y.toInt * 2))) (v := 1) hx hb dX5_put_42 (e_4) (by decide) (by subst hj1; omega) (fun z_10 e_10 => ?_)
        refine t_iald (L := L) (f := f) (y := b_c) (u := z_10.toInt) hx hb hK.1 hP m_b_p 0 f_b_p rfl dX5_put_43 (rfl) (by subst hj1; omega) (fun z_11 q_11 e_11 => ?_)
        obtain ⟨a1_11, a2_11, a3_11⟩ := at_c k_b (i := z_10.toInt) (by subst hj1; omega) q_11
        refine a_if_eq (u := z_11.toInt) (tgt := 49) hx hb dX5_put_44 (by decide) (rfl) (fun c_12 => ?_) (fun c_12 => ?_)
        · refine lv_iload_n hx hb dX5_put_49 rfl (lv_at hl 4 rfl) ?_
          refine lv_iconst (v := 4) hx hb dX5_put_50 (by decide) ?_
          refine a_imul (u := k.toInt) (v := 4) hx hb dX5_put_51 (rfl) (by decide) (by subst hj1; omega) (fun z_13 e_13 => ?_)
          refine lv_iconst (v := 3) hx hb dX5_put_52 (by decide) ?_
          refine a_iadd (u := (k.toInt * 4)) (v := 3) hx hb dX5_put_53 (e_13) (by decide) (by subst hj1; omega) (fun z_14 e_14 => ?_)
          refine lv_iload hx hb dX5_put_54 (lv_at hl 5 rfl) ?_
          refine a_isub (u := ((k.toInt * 4) + 3)) (v := t.toInt) hx hb dX5_put_56 (e_14) (rfl) (by subst hj1; omega) (fun z_15 e_15 => ?_)
          refine lv_istore (lv' := [(6, .int z_15), (5, .int z_4), (0, .ref b), (1, .int x), (2, .int y), (3, .int k), (4, .int t)]) hx hb dX5_put_57 hl (by decide) rfl (fun ls hl => ?_)
          refine lv_iload hx hb dX5_put_59 (lv_at hl 0 rfl) ?_
          refine lv_aload_n hx hb dX5_put_61 rfl (lv_at hl 2 rfl) ?_
          refine t_get (D := D) (L := L) (f := f) (ci := 5) (v := .ref b_p) (C := RX5) (T := TX5) (N := 4) hx hb hts (by decide +kernel) hown hK.1 hP m_b f_b rfl 2 (by decide) (hts (.fieldLink RX5 24 "JugglingHall$Row" "cells" "[I") (by decide +kernel)) (fun _ h9 => h9) rfl dX5_put_62 ?_
          refine lv_iload hx hb dX5_put_65 (lv_at hl 1 rfl) ?_
          refine t_iald (L := L) (f := f) (y := b_c) (u := ((x.toInt * (2 * (jn : Int))) + (y.toInt * 2))) hx hb hK.1 hP m_b_p 0 f_b_p rfl dX5_put_67 (e_4) (by subst hj1; omega) (fun z_16 q_16 e_16 => ?_)
          obtain ⟨a1_16, a2_16, a3_16⟩ := at_c k_b (i := ((x.toInt * (2 * (jn : Int))) + (y.toInt * 2))) (by subst hj1; omega) q_16
          refine a_icmp_le (u := (((k.toInt * 4) + 3) - t.toInt)) (v := z_16.toInt) (tgt := 99) hx hb dX5_put_68 (by decide) (e_15) (rfl) (fun c_17 => ?_) (fun c_17 => ?_)
          · refine lv_aload_n hx hb dX5_put_99 rfl (lv_at hl 2 rfl) ?_
            refine t_get (D := D) (L := L) (f := f) (ci := 5) (v := .ref b_p) (C := RX5) (T := TX5) (N := 4) hx hb hts (by decide +kernel) hown hK.1 hP m_b f_b rfl 2 (by decide) (hts (.fieldLink RX5 24 "JugglingHall$Row" "cells" "[I") (by decide +kernel)) (fun _ h9 => h9) rfl dX5_put_100 ?_
            refine lv_iload hx hb dX5_put_103 (lv_at hl 1 rfl) ?_
            refine lv_iconst (v := 1) hx hb dX5_put_105 (by decide) ?_
            refine a_iadd (u := ((x.toInt * (2 * (jn : Int))) + (y.toInt * 2))) (v := 1) hx hb dX5_put_106 (e_4) (by decide) (by subst hj1; omega) (fun z_18 e_18 => ?_)
            refine lv_iload hx hb dX5_put_107 (lv_at hl 0 rfl) ?_
            refine t_iast (L := L) (f := f) (h := b_c) (u := z_18.toInt) hx hb hK.1 hP hD hS m_b_p 0 f_b_p rfl dX5_put_109 (rfl) (by subst hj1; omega) (fun g_19 f_19 H locs eg_19 e9_19 o_19 hP hD hS => ?_)
            have ok_19 : cOK jn b_n g_19 := by rw [eg_19]; exact cOK_set k_b (by subst hj1; omega) ⟨by omega, by omega, by omega⟩
            have fa_19 : f_19 b_p = .inl (cI, b_n, .inl g_19) := e9_19
            have hI := IN_set (e := .inl (cI, b_n, .inl g_19)) hI s_b_p (mk_1 ok_19) fa_19 o_19
            have hF := FR_set hF s_b_p (show (1 : Nat) ∈ ([1] : List Nat) by decide) o_19
            have hFX := FX_set1 hFX s_b_p (rfl) o_19
            have fb_20 : f_19 b = .inr (5, [.int (nI jn), .int (nI (2 * jn)), .ref b_p, .int b_l]) := f_at o_19 (S_ne s_b s_b_p (show (0 : Nat) ≠ 1 by decide)) f_b
            refine lv_iconst (v := 1) hx hb dX5_put_110 (by decide) ?_
            have hz_21 : (1 : Int32).toInt = 1 := by decide
            exact g_zret ((1 : Int32), f_19) hx hb hr hlocks hS (by first | exact Or.inl rfl | exact Or.inr rfl) rfl (⟨hI, hF, show ((1 : Int32).toInt = 1 ∧ ∃ v9, insW w x.toInt k.toInt = some v9 ∧ RWf cI jn S f_19 b b_l.toInt v9) ∨ ((1 : Int32).toInt = 0 ∧ insW w x.toInt k.toInt = none) from (Or.inl ⟨rfl, _, ins_b (by subst hj1; omega) (show w (2 * x.toInt + 1) = 0 by
              have h7 := hw (2 * x.toInt + 1) (by subst hj1; omega) (by subst hj1; omega)
              have h6 : z_11 = b_c (2 * x.toInt + 1).toNat := by rw [q_11, show z_10.toInt = 2 * x.toInt + 1 by subst hj1; omega]
              rw [← h6] at h7
              have h5 := cd_h (h := w (2 * x.toInt + 1))
              have h4 := RC_w hw k_b (by subst hj1; omega) (i := 2 * x.toInt + 1) (by subst hj1; omega) (by subst hj1; omega)
              omega) (by
              have h7 := hw (2 * x.toInt) (by subst hj1; omega) (by subst hj1; omega)
              have h6 : z_16 = b_c (2 * x.toInt).toNat := by rw [q_16, show ((x.toInt * (2 * (jn : Int))) + (y.toInt * 2)) = 2 * x.toInt by subst hj1; omega]
              rw [← h6] at h7
              have h3 : w (2 * x.toInt) = 0 ∨ w (2 * x.toInt) ≠ 0 := by omega
              rcases h3 with h3 | h3
              · rw [cd_0 h3] at h7; subst hj1; omega
              · rw [cd_1 h3] at h7; subst hj1; omega), ⟨b_p, b_n, _, _, s_b, s_b_p, fb_20, fa_19, rfl, by rw [eg_19, show z_18.toInt = 2 * x.toInt + 1 by subst hj1; omega]; exact put_le hw (by subst hj1; omega) (by subst hj1; omega) (by subst hj1; omega) (by subst hj1; omega)⟩⟩), show FX S (fun a9 => a9 = b) [] f f_19 from (by first | assumption | omega | (subst hj1; omega)), show (1 : Int32).toInt = 0 ∨ (1 : Int32).toInt = 1 from (by first | assumption | omega | (subst hj1; omega))⟩) hP hD hQ (Nat.le_of_ble_eq_true rfl) (Nat.le_of_ble_eq_true rfl) dX5_put_111
          · refine lv_aload_n hx hb dX5_put_71 rfl (lv_at hl 2 rfl) ?_
            refine t_get (D := D) (L := L) (f := f) (ci := 5) (v := .ref b_p) (C := RX5) (T := TX5) (N := 4) hx hb hts (by decide +kernel) hown hK.1 hP m_b f_b rfl 2 (by decide) (hts (.fieldLink RX5 24 "JugglingHall$Row" "cells" "[I") (by decide +kernel)) (fun _ h9 => h9) rfl dX5_put_72 ?_
            refine lv_iload hx hb dX5_put_75 (lv_at hl 1 rfl) ?_
            refine lv_iconst (v := 1) hx hb dX5_put_77 (by decide) ?_
            refine a_iadd (u := ((x.toInt * (2 * (jn : Int))) + (y.toInt * 2))) (v := 1) hx hb dX5_put_78 (e_4) (by decide) (by subst hj1; omega) (fun z_22 e_22 => ?_)
            refine lv_aload_n hx hb dX5_put_79 rfl (lv_at hl 2 rfl) ?_
            refine t_get (D := D) (L := L) (f := f) (ci := 5) (v := .ref b_p) (C := RX5) (T := TX5) (N := 4) hx hb hts (by decide +kernel) hown hK.1 hP m_b f_b rfl 2 (by decide) (hts (.fieldLink RX5 24 "JugglingHall$Row" "cells" "[I") (by decide +kernel)) (fun _ h9 => h9) rfl dX5_put_80 ?_
            refine lv_iload hx hb dX5_put_83 (lv_at hl 1 rfl) ?_
            refine t_iald (L := L) (f := f) (y := b_c) (u := ((x.toInt * (2 * (jn : Int))) + (y.toInt * 2))) hx hb hK.1 hP m_b_p 0 f_b_p rfl dX5_put_85 (e_4) (by subst hj1; omega) (fun z_23 q_23 e_23 => ?_)
            obtain ⟨a1_23, a2_23, a3_23⟩ := at_c k_b (i := ((x.toInt * (2 * (jn : Int))) + (y.toInt * 2))) (by subst hj1; omega) q_23
            refine t_iast (L := L) (f := f) (h := b_c) (u := z_22.toInt) hx hb hK.1 hP hD hS m_b_p 0 f_b_p rfl dX5_put_86 (rfl) (by subst hj1; omega) (fun g_24 f_24 H locs eg_24 e9_24 o_24 hP hD hS => ?_)
            have ok_24 : cOK jn b_n g_24 := by rw [eg_24]; exact cOK_set k_b (by subst hj1; omega) ⟨by omega, by omega, by omega⟩
            have fa_24 : f_24 b_p = .inl (cI, b_n, .inl g_24) := e9_24
            have hI := IN_set (e := .inl (cI, b_n, .inl g_24)) hI s_b_p (mk_1 ok_24) fa_24 o_24
            have hF := FR_set hF s_b_p (show (1 : Nat) ∈ ([1] : List Nat) by decide) o_24
            have hFX := FX_set1 hFX s_b_p (rfl) o_24
            have fb_25 : f_24 b = .inr (5, [.int (nI jn), .int (nI (2 * jn)), .ref b_p, .int b_l]) := f_at o_24 (S_ne s_b s_b_p (show (0 : Nat) ≠ 1 by decide)) f_b
            refine lv_aload_n hx hb dX5_put_87 rfl (lv_at hl 2 rfl) ?_
            refine t_get (D := D) (L := L) (f := f_24) (ci := 5) (v := .ref b_p) (C := RX5) (T := TX5) (N := 4) hx hb hts (by decide +kernel) hown hK.1 hP m_b fb_25 rfl 2 (by decide) (hts (.fieldLink RX5 24 "JugglingHall$Row" "cells" "[I") (by decide +kernel)) (fun _ h9 => h9) rfl dX5_put_88 ?_
            refine lv_iload hx hb dX5_put_91 (lv_at hl 1 rfl) ?_
            refine lv_iload hx hb dX5_put_93 (lv_at hl 0 rfl) ?_
            refine t_iast (L := L) (f := f_24) (h := g_24) (u := ((x.toInt * (2 * (jn : Int))) + (y.toInt * 2))) hx hb hK.1 hP hD hS m_b_p 0 fa_24 rfl dX5_put_95 (e_4) (by subst hj1; omega) (fun g_26 f_26 H locs eg_26 e9_26 o_26 hP hD hS => ?_)
            have ok_26 : cOK jn b_n g_26 := by rw [eg_26]; exact cOK_set ok_24 (by subst hj1; omega) ⟨by omega, by omega, by omega⟩
            have fa_26 : f_26 b_p = .inl (cI, b_n, .inl g_26) := e9_26
            have hI := IN_set (e := .inl (cI, b_n, .inl g_26)) hI s_b_p (mk_1 ok_26) fa_26 o_26
            have hF := FR_set hF s_b_p (show (1 : Nat) ∈ ([1] : List Nat) by decide) o_26
            have hFX := FX_set1 hFX s_b_p (rfl) o_26
            have fb_27 : f_26 b = .inr (5, [.int (nI jn), .int (nI (2 * jn)), .ref b_p, .int b_l]) := f_at o_26 (S_ne s_b s_b_p (show (0 : Nat) ≠ 1 by decide)) fb_25
            refine lv_goto (tgt := 110) hx hb dX5_put_96 (by decide) ?_
            refine lv_iconst (v := 1) hx hb dX5_put_110 (by decide) ?_
            have hz_28 : (1 : Int32).toInt = 1 := by decide
            exact g_zret ((1 : Int32), f_26) hx hb hr hlocks hS (by first | exact Or.inl rfl | exact Or.inr rfl) rfl (⟨hI, hF, show ((1 : Int32).toInt = 1 ∧ ∃ v9, insW w x.toInt k.toInt = some v9 ∧ RWf cI jn S f_26 b b_l.toInt v9) ∨ ((1 : Int32).toInt = 0 ∧ insW w x.toInt k.toInt = none) from (Or.inl ⟨rfl, _, ins_a (by subst hj1; omega) (show w (2 * x.toInt + 1) = 0 by
              have h7 := hw (2 * x.toInt + 1) (by subst hj1; omega) (by subst hj1; omega)
              have h6 : z_11 = b_c (2 * x.toInt + 1).toNat := by rw [q_11, show z_10.toInt = 2 * x.toInt + 1 by subst hj1; omega]
              rw [← h6] at h7
              have h5 := cd_h (h := w (2 * x.toInt + 1))
              have h4 := RC_w hw k_b (by subst hj1; omega) (i := 2 * x.toInt + 1) (by subst hj1; omega) (by subst hj1; omega)
              omega) (by
              have h7 := hw (2 * x.toInt) (by subst hj1; omega) (by subst hj1; omega)
              have h6 : z_16 = b_c (2 * x.toInt).toNat := by rw [q_16, show ((x.toInt * (2 * (jn : Int))) + (y.toInt * 2)) = 2 * x.toInt by subst hj1; omega]
              rw [← h6] at h7
              have h3 : w (2 * x.toInt) = 0 ∨ w (2 * x.toInt) ≠ 0 := by omega
              rcases h3 with h3 | h3
              · rw [cd_0 h3] at h7; subst hj1; omega
              · rw [cd_1 h3] at h7; subst hj1; omega), ⟨b_p, b_n, _, _, s_b, s_b_p, fb_27, fa_26, rfl, by rw [eg_26, eg_24, show z_22.toInt = 2 * x.toInt + 1 by subst hj1; omega, show ((x.toInt * (2 * (jn : Int))) + (y.toInt * 2)) = 2 * x.toInt by subst hj1; omega]; exact put_gt hw (by subst hj1; omega) (by subst hj1; omega) (by subst hj1; omega) (by rw [q_23, show ((x.toInt * (2 * (jn : Int))) + (y.toInt * 2)) = 2 * x.toInt by subst hj1; omega]) (by subst hj1; omega)⟩⟩), show FX S (fun a9 => a9 = b) [] f f_26 from (by first | assumption | omega | (subst hj1; omega)), show (1 : Int32).toInt = 0 ∨ (1 : Int32).toInt = 1 from (by first | assumption | omega | (subst hj1; omega))⟩) hP hD hQ (Nat.le_of_ble_eq_true rfl) (Nat.le_of_ble_eq_true rfl) dX5_put_111
        · refine lv_iconst (v := 0) hx hb dX5_put_47 (by decide) ?_
          have hz_29 : (0 : Int32).toInt = 0 := by decide
          exact g_zret ((0 : Int32), f) hx hb hr hlocks hS (by first | exact Or.inl rfl | exact Or.inr rfl) rfl (⟨hI, hF, show ((0 : Int32).toInt = 1 ∧ ∃ v9, insW w x.toInt k.toInt = some v9 ∧ RWf cI jn S f b b_l.toInt v9) ∨ ((0 : Int32).toInt = 0 ∧ insW w x.toInt k.toInt = none) from (Or.inr ⟨rfl, ins_n (by subst hj1; omega) (fun q9 => by
            have h7 := hw (2 * x.toInt + 1) (by subst hj1; omega) (by subst hj1; omega)
            have h6 : z_11 = b_c (2 * x.toInt + 1).toNat := by rw [q_11, show z_10.toInt = 2 * x.toInt + 1 by subst hj1; omega]
            rw [← h6, cd_0 q9] at h7
            omega)⟩), show FX S (fun a9 => a9 = b) [] f f from (by first | assumption | omega | (subst hj1; omega)), show (0 : Int32).toInt = 0 ∨ (0 : Int32).toInt = 1 from (by first | assumption | omega | (subst hj1; omega))⟩) hP hD hQ (Nat.le_of_ble_eq_true rfl) (Nat.le_of_ble_eq_true rfl) dX5_put_48
  · refine lv_iconst (v := 1) hx hb dX5_put_4 (by decide) ?_
    have hz_30 : (1 : Int32).toInt = 1 := by decide
    exact g_zret ((1 : Int32), f) hx hb hr hlocks hS (by first | exact Or.inl rfl | exact Or.inr rfl) rfl (⟨hI, hF, show ((1 : Int32).toInt = 1 ∧ ∃ v9, insW w x.toInt k.toInt = some v9 ∧ RWf cI jn S f b b_l.toInt v9) ∨ ((1 : Int32).toInt = 0 ∧ insW w x.toInt k.toInt = none) from (Or.inl ⟨rfl, w, by unfold insW; rw [if_pos (by subst hj1; omega)], ⟨b_p, b_n, _, _, s_b, s_b_p, f_b, f_b_p, rfl, hw⟩⟩), show FX S (fun a9 => a9 = b) [] f f from (by first | assumption | omega | (subst hj1; omega)), show (1 : Int32).toInt = 0 ∨ (1 : Int32).toInt = 1 from (by first | assumption | omega | (subst hj1; omega))⟩) hP hD hQ (Nat.le_of_ble_eq_true rfl) (Nat.le_of_ble_eq_true rfl) dX5_put_5
set_option maxRecDepth 100000 in
set_option maxHeartbeats 4000000 in
theorem t_X5_appendm (l : Launch) (D : va_G) (cI cR cM : ClassId) (sz : Nat) {jn : Nat} {g : Nat → Nat} {L : List Nat} {S : Sg} {f : Nat → va_E} {b b_p b_n : Nat} {b_l : Int32} {b_c : Nat → Int32} {o o_p o_n : Nat} {o_l : Int32} {o_c : Nat → Int32} {x y : Int32} {w v : Int → Int} (hj : 1 ≤ jn ∧ jn ≤ 3) (hG : SG g L S) (hI : IN jn cI cR cM g L S f) (m_b : b ∈ L) (s_b : S b = (0, b_p, b_n)) (f_b : f b = .inr (5, [.int (nI jn), .int (nI (2 * jn)), .ref b_p, .int b_l])) (f_b_p : f b_p = .inl (cI, b_n, .inl b_c)) (m_o : o ∈ L) (s_o : S o = (0, o_p, o_n)) (f_o : f o = .inr (5, [.int (nI jn), .int (nI (2 * jn)), .ref o_p, .int o_l])) (f_o_p : f o_p = .inl (cI, o_n, .inl o_c)) (hj1 : jn = 1) (hx0 : 0 ≤ x.toInt ∧ x.toInt ≤ y.toInt ∧ y.toInt ≤ o_l.toInt) (hw : RC b_c w b_l.toInt) (hu : RC o_c v o_l.toInt) : Met l yX5_append wsX5_append ({ frames := 1, cells := 0, slots := 0, locals := 64 }) (P0 D cI cR cM [.ref b, .ref o, .int x, .int y] sz (va_pl L f)) (QG (S := Int32 × (Nat → va_E)) (fun u => some (.int u.1)) (fun u => va_pl L u.2) (fun u => IN jn cI cR cM g L S u.2 ∧ FR S [0, 1] f u.2 ∧ ((u.1.toInt = 1 ∧ 2 * (b_l.toInt + (y.toInt - x.toInt)) ≤ (b_n : Int) ∧ RWf cI jn S u.2 b (b_l.toInt + (y.toInt - x.toInt)) (fun j => if j < 2 * b_l.toInt then w j else v (2 * x.toInt + (j - 2 * b_l.toInt)))) ∨ (u.1.toInt = 0 ∧ (b_n : Int) < 2 * (b_l.toInt + (y.toInt - x.toInt)))) ∧ (FX S (fun a9 => a9 = b) [] f u.2) ∧ (u.1.toInt = 0 ∨ u.1.toInt = 1)) D (va_A (va_pl L f) sz)) 0 0 (va_A (va_pl L f) sz) := by
  refine go (cc := cX5_append) (maxL := 5) (ret := (some .boolean)) (by decide +kernel) rfl (Nat.le_of_ble_eq_true rfl) ?_
  intro p e s m below meth c ls args Q hQ hsz hx hb hr hml hts hown hlocks hnm hP hK hD hl
  subst hsz
  have hD := hD.self (sz := s.heap.size)
  generalize hAe : va_A (va_pl L f) s.heap.size = A at hD hQ
  have hA : ∀ q, s.heap.size ≤ q → A q := fun q h => by rw [← hAe]; exact Or.inr h
  have hS : va_S A s.heap s.heap [] := va_S.rf
  have hFX : FX S (fun a9 => a9 = b) [] f f := FX_rf
  have hF : FR S [0, 1] f f := FR_rf
  have hl : lv_has ls 5 [(0, .ref b), (1, .ref o), (2, .int x), (3, .int y)] := hl
  obtain ⟨v1_b, v2_b, v3_b, m_b_p, s_b_p⟩ := iv_0 hI m_b s_b f_b
  obtain ⟨w1_b, w2_b, w3_b, w4_b, w5_b⟩ := lenw hj v1_b v2_b v3_b
  have k_b := iv_1 hI m_b_p s_b_p f_b_p
  obtain ⟨v1_o, v2_o, v3_o, m_o_p, s_o_p⟩ := iv_0 hI m_o s_o f_o
  obtain ⟨w1_o, w2_o, w3_o, w4_o, w5_o⟩ := lenw hj v1_o v2_o v3_o
  have k_o := iv_1 hI m_o_p s_o_p f_o_p
  refine lv_iload_n hx hb dX5_append_0 rfl (lv_at hl 3 rfl) ?_
  refine lv_iload_n hx hb dX5_append_1 rfl (lv_at hl 2 rfl) ?_
  refine a_isub (u := y.toInt) (v := x.toInt) hx hb dX5_append_2 (rfl) (rfl) (by subst hj1; omega) (fun z_1 e_1 => ?_)
  refine lv_istore (lv' := [(4, .int z_1), (0, .ref b), (1, .ref o), (2, .int x), (3, .int y)]) hx hb dX5_append_3 hl (by decide) rfl (fun ls hl => ?_)
  refine lv_iload_n hx hb dX5_append_5 rfl (lv_at hl 3 rfl) ?_
  refine a_if_lt (u := x.toInt) (tgt := 42) hx hb dX5_append_6 (by decide) (rfl) (fun c_2 => ?_) (fun c_2 => ?_)
  · refine lv_iconst (v := 0) hx hb dX5_append_42 (by decide) ?_
    have hz_3 : (0 : Int32).toInt = 0 := by decide
    exact g_zret ((0 : Int32), f) hx hb hr hlocks hS (by first | exact Or.inl rfl | exact Or.inr rfl) rfl (⟨hI, hF, show ((0 : Int32).toInt = 1 ∧ 2 * (b_l.toInt + (y.toInt - x.toInt)) ≤ (b_n : Int) ∧ RWf cI jn S f b (b_l.toInt + (y.toInt - x.toInt)) (fun j => if j < 2 * b_l.toInt then w j else v (2 * x.toInt + (j - 2 * b_l.toInt)))) ∨ ((0 : Int32).toInt = 0 ∧ (b_n : Int) < 2 * (b_l.toInt + (y.toInt - x.toInt))) from (by first | exact Or.inr ⟨rfl, by subst hj1; omega⟩ | (exfalso; subst hj1; omega)), show FX S (fun a9 => a9 = b) [] f f from (by first | assumption | omega | (subst hj1; omega)), show (0 : Int32).toInt = 0 ∨ (0 : Int32).toInt = 1 from (by first | assumption | omega | (subst hj1; omega))⟩) hP hD hQ (Nat.le_of_ble_eq_true rfl) (Nat.le_of_ble_eq_true rfl) dX5_append_43
  · refine lv_iload hx hb dX5_append_9 (lv_at hl 0 rfl) ?_
    refine a_if_lt (u := (y.toInt - x.toInt)) (tgt := 42) hx hb dX5_append_11 (by decide) (e_1) (fun c_4 => ?_) (fun c_4 => ?_)
    · refine lv_iconst (v := 0) hx hb dX5_append_42 (by decide) ?_
      have hz_5 : (0 : Int32).toInt = 0 := by decide
      exact g_zret ((0 : Int32), f) hx hb hr hlocks hS (by first | exact Or.inl rfl | exact Or.inr rfl) rfl (⟨hI, hF, show ((0 : Int32).toInt = 1 ∧ 2 * (b_l.toInt + (y.toInt - x.toInt)) ≤ (b_n : Int) ∧ RWf cI jn S f b (b_l.toInt + (y.toInt - x.toInt)) (fun j => if j < 2 * b_l.toInt then w j else v (2 * x.toInt + (j - 2 * b_l.toInt)))) ∨ ((0 : Int32).toInt = 0 ∧ (b_n : Int) < 2 * (b_l.toInt + (y.toInt - x.toInt))) from (by first | exact Or.inr ⟨rfl, by subst hj1; omega⟩ | (exfalso; subst hj1; omega)), show FX S (fun a9 => a9 = b) [] f f from (by first | assumption | omega | (subst hj1; omega)), show (0 : Int32).toInt = 0 ∨ (0 : Int32).toInt = 1 from (by first | assumption | omega | (subst hj1; omega))⟩) hP hD hQ (Nat.le_of_ble_eq_true rfl) (Nat.le_of_ble_eq_true rfl) dX5_append_43
    · refine lv_iload_n hx hb dX5_append_14 rfl (lv_at hl 4 rfl) ?_
      refine lv_aload_n hx hb dX5_append_15 rfl (lv_at hl 2 rfl) ?_
      refine t_get (D := D) (L := L) (f := f) (ci := 5) (v := .int o_l) (C := RX5) (T := TX5) (N := 4) hx hb hts (by decide +kernel) hown hK.1 hP m_o f_o rfl 3 (by decide) (hts (.fieldLink RX5 28 "JugglingHall$Row" "length" "I") (by decide +kernel)) (fun _ h9 => h9) rfl dX5_append_16 ?_
      refine a_icmp_gt (u := y.toInt) (v := o_l.toInt) (tgt := 42) hx hb dX5_append_19 (by decide) (rfl) (rfl) (fun c_6 => ?_) (fun c_6 => ?_)
      · refine lv_iconst (v := 0) hx hb dX5_append_42 (by decide) ?_
        have hz_7 : (0 : Int32).toInt = 0 := by decide
        exact g_zret ((0 : Int32), f) hx hb hr hlocks hS (by first | exact Or.inl rfl | exact Or.inr rfl) rfl (⟨hI, hF, show ((0 : Int32).toInt = 1 ∧ 2 * (b_l.toInt + (y.toInt - x.toInt)) ≤ (b_n : Int) ∧ RWf cI jn S f b (b_l.toInt + (y.toInt - x.toInt)) (fun j => if j < 2 * b_l.toInt then w j else v (2 * x.toInt + (j - 2 * b_l.toInt)))) ∨ ((0 : Int32).toInt = 0 ∧ (b_n : Int) < 2 * (b_l.toInt + (y.toInt - x.toInt))) from (by first | exact Or.inr ⟨rfl, by subst hj1; omega⟩ | (exfalso; subst hj1; omega)), show FX S (fun a9 => a9 = b) [] f f from (by first | assumption | omega | (subst hj1; omega)), show (0 : Int32).toInt = 0 ∨ (0 : Int32).toInt = 1 from (by first | assumption | omega | (subst hj1; omega))⟩) hP hD hQ (Nat.le_of_ble_eq_true rfl) (Nat.le_of_ble_eq_true rfl) dX5_append_43
      · refine lv_aload_n hx hb dX5_append_22 rfl (lv_at hl 1 rfl) ?_
        refine t_get (D := D) (L := L) (f := f) (ci := 5) (v := .int b_l) (C := RX5) (T := TX5) (N := 4) hx hb hts (by decide +kernel) hown hK.1 hP m_b f_b rfl 3 (by decide) (hts (.fieldLink RX5 28 "JugglingHall$Row" "length" "I") (by decide +kernel)) (fun _ h9 => h9) rfl dX5_append_23 ?_
        refine lv_iload hx hb dX5_append_26 (lv_at hl 0 rfl) ?_
        refine a_iadd (u := b_l.toInt) (v := (y.toInt - x.toInt)) hx hb dX5_append_28 (rfl) (e_1) (by subst hj1; omega) (fun z_8 e_8 => ?_)
        refine lv_aload_n hx hb dX5_append_29 rfl (lv_at hl 1 rfl) ?_
        refine t_get (D := D) (L := L) (f := f) (ci := 5) (v := .int (nI (2 * jn))) (C := RX5) (T := TX5) (N := 4) hx hb hts (by decide +kernel) hown hK.1 hP m_b f_b rfl 1 (by decide) (hts (.fieldLink RX5 21 "JugglingHall$Row" "width" "I") (by decide +kernel)) (fun _ h9 => h9) rfl dX5_append_30 ?_
        refine a_imul (u := (b_l.toInt + (y.toInt - x.toInt))) (v := (2 * (jn : Int))) hx hb dX5_append_33 (e_8) (w2 hj) (by subst hj1; omega) (fun z_9 e_9 => ?_)
        refine lv_aload_n hx hb dX5_append_34 rfl (lv_at hl 1 rfl) ?_
        refine t_get (D := D) (L := L) (f := f) (ci := 5) (v := .ref b_p) (C := RX5) (T := TX5) (N := 4) hx hb hts (by decide +kernel) hown hK.1 hP m_b f_b rfl 2 (by decide) (hts (.fieldLink RX5 24 "JugglingHall$Row" "cells" "[I") (by decide +kernel)) (fun _ h9 => h9) rfl dX5_append_35 ?_
        refine t_alen (L := L) (f := f) (v := nI b_n) hx hb hK.1 hP m_b_p 0 f_b_p rfl rfl dX5_append_38 ?_
        refine a_icmp_le (u := z_9.toInt) (v := (b_n : Int)) (tgt := 44) hx hb dX5_append_39 (by decide) (rfl) (nI_toInt (by subst hj1; omega)) (fun c_10 => ?_) (fun c_10 => ?_)
        · refine lv_aload_n hx hb dX5_append_44 rfl (lv_at hl 2 rfl) ?_
          refine t_get (D := D) (L := L) (f := f) (ci := 5) (v := .ref o_p) (C := RX5) (T := TX5) (N := 4) hx hb hts (by decide +kernel) hown hK.1 hP m_o f_o rfl 2 (by decide) (hts (.fieldLink RX5 24 "JugglingHall$Row" "cells" "[I") (by decide +kernel)) (fun _ h9 => h9) rfl dX5_append_45 ?_
          refine lv_iload_n hx hb dX5_append_48 rfl (lv_at hl 3 rfl) ?_
          refine lv_aload_n hx hb dX5_append_49 rfl (lv_at hl 1 rfl) ?_
          refine t_get (D := D) (L := L) (f := f) (ci := 5) (v := .int (nI (2 * jn))) (C := RX5) (T := TX5) (N := 4) hx hb hts (by decide +kernel) hown hK.1 hP m_b f_b rfl 1 (by decide) (hts (.fieldLink RX5 21 "JugglingHall$Row" "width" "I") (by decide +kernel)) (fun _ h9 => h9) rfl dX5_append_50 ?_
          refine a_imul (u := x.toInt) (v := (2 * (jn : Int))) hx hb dX5_append_53 (rfl) (w2 hj) (by subst hj1; omega) (fun z_11 e_11 => ?_)
          refine lv_aload_n hx hb dX5_append_54 rfl (lv_at hl 1 rfl) ?_
          refine t_get (D := D) (L := L) (f := f) (ci := 5) (v := .ref b_p) (C := RX5) (T := TX5) (N := 4) hx hb hts (by decide +kernel) hown hK.1 hP m_b f_b rfl 2 (by decide) (hts (.fieldLink RX5 24 "JugglingHall$Row" "cells" "[I") (by decide +kernel)) (fun _ h9 => h9) rfl dX5_append_55 ?_
          refine lv_aload_n hx hb dX5_append_58 rfl (lv_at hl 1 rfl) ?_
          refine t_get (D := D) (L := L) (f := f) (ci := 5) (v := .int b_l) (C := RX5) (T := TX5) (N := 4) hx hb hts (by decide +kernel) hown hK.1 hP m_b f_b rfl 3 (by decide) (hts (.fieldLink RX5 28 "JugglingHall$Row" "length" "I") (by decide +kernel)) (fun _ h9 => h9) rfl dX5_append_59 ?_
          refine lv_aload_n hx hb dX5_append_62 rfl (lv_at hl 1 rfl) ?_
          refine t_get (D := D) (L := L) (f := f) (ci := 5) (v := .int (nI (2 * jn))) (C := RX5) (T := TX5) (N := 4) hx hb hts (by decide +kernel) hown hK.1 hP m_b f_b rfl 1 (by decide) (hts (.fieldLink RX5 21 "JugglingHall$Row" "width" "I") (by decide +kernel)) (fun _ h9 => h9) rfl dX5_append_63 ?_
          refine a_imul (u := b_l.toInt) (v := (2 * (jn : Int))) hx hb dX5_append_66 (rfl) (w2 hj) (by subst hj1; omega) (fun z_12 e_12 => ?_)
          refine lv_iload hx hb dX5_append_67 (lv_at hl 0 rfl) ?_
          refine lv_aload_n hx hb dX5_append_69 rfl (lv_at hl 1 rfl) ?_
          refine t_get (D := D) (L := L) (f := f) (ci := 5) (v := .int (nI (2 * jn))) (C := RX5) (T := TX5) (N := 4) hx hb hts (by decide +kernel) hown hK.1 hP m_b f_b rfl 1 (by decide) (hts (.fieldLink RX5 21 "JugglingHall$Row" "width" "I") (by decide +kernel)) (fun _ h9 => h9) rfl dX5_append_70 ?_
          refine a_imul (u := (y.toInt - x.toInt)) (v := (2 * (jn : Int))) hx hb dX5_append_73 (e_1) (w2 hj) (by subst hj1; omega) (fun z_13 e_13 => ?_)
          refine t_copy (L := L) (f := f) hx hb (by rw [hml]; exact hl.1.symm) hown (hts (.methodLink RX5 66 arraycopyName) (by decide +kernel)) (hts (.native arraycopyName) (by decide +kernel)) (hts (.static arraycopyName) (by decide +kernel)) (hts (.initialized "java/lang/System") (by decide +kernel)) hK.1 hP hD hS 0 m_o_p f_o_p m_b_p f_b_p rfl (by subst hj1; omega) (by subst hj1; omega) (by subst hj1; omega) (by subst hj1; omega) (by subst hj1; omega) (Nat.le_of_ble_eq_true rfl) (Nat.le_of_ble_eq_true rfl) dX5_append_74 (fun g_14 f_14 H locs eg_14 e9_14 o_14 hP hD hS => ?_)
          have ok_14 : cOK jn b_n g_14 := by rw [eg_14]; exact cOK_cpy k_o k_b (by subst hj1; omega)
          have fa_14 : f_14 b_p = .inl (cI, b_n, .inl g_14) := e9_14
          have hI := IN_set (e := .inl (cI, b_n, .inl g_14)) hI s_b_p (mk_1 ok_14) fa_14 o_14
          have hF := FR_set hF s_b_p (show (1 : Nat) ∈ ([0, 1] : List Nat) by decide) o_14
          have hFX := FX_set1 hFX s_b_p (rfl) o_14
          have fb_15 : f_14 b = .inr (5, [.int (nI jn), .int (nI (2 * jn)), .ref b_p, .int b_l]) := f_at o_14 (S_ne s_b s_b_p (show (0 : Nat) ≠ 1 by decide)) f_b
          have fb_16 : f_14 o = .inr (5, [.int (nI jn), .int (nI (2 * jn)), .ref o_p, .int o_l]) := f_at o_14 (S_ne s_o s_b_p (show (0 : Nat) ≠ 1 by decide)) f_o
          refine lv_aload_n hx hb dX5_append_77 rfl (lv_at hl 1 rfl) ?_
          refine lv_dup hx hb dX5_append_78 rfl ?_
          refine t_get (D := D) (L := L) (f := f_14) (ci := 5) (v := .int b_l) (C := RX5) (T := TX5) (N := 4) hx hb hts (by decide +kernel) hown hK.1 hP m_b fb_15 rfl 3 (by decide) (hts (.fieldLink RX5 28 "JugglingHall$Row" "length" "I") (by decide +kernel)) (fun _ h9 => h9) rfl dX5_append_79 ?_
          refine lv_iload hx hb dX5_append_82 (lv_at hl 0 rfl) ?_
          refine a_iadd (u := b_l.toInt) (v := (y.toInt - x.toInt)) hx hb dX5_append_84 (rfl) (e_1) (by subst hj1; omega) (fun z_17 e_17 => ?_)
          refine t_put (D := D) (L := L) (f := f_14) (ci := 5) (v := .int z_17) (ty := .int) (C := RX5) (T := TX5) (N := 4) hx hb hts (by decide +kernel) tyX5 tyX5_ok nmX5 hown hK.1 hP hD hS m_b fb_15 rfl 3 (by decide) (hts (.fieldLink RX5 28 "JugglingHall$Row" "length" "I") (by decide +kernel)) (fun _ h9 => h9) rfl (by decide +kernel) rfl rfl (Nat.le_of_ble_eq_true rfl) dX5_append_85 (fun f_18 H locs e9_18 o_18 hP hD hS => ?_)
          have fa_18 : f_18 b = .inr (5, [.int (nI jn), .int (nI (2 * jn)), .ref b_p, .int z_17]) := e9_18
          have hI := IN_set (e := .inr (5, [.int (nI jn), .int (nI (2 * jn)), .ref b_p, .int z_17])) hI s_b (mk_0 (by first | assumption | omega | (subst hj1; omega)) (by first | assumption | omega | (subst hj1; omega)) (by first | assumption | omega | (subst hj1; omega)) (by first | assumption | omega | (subst hj1; omega)) (by first | assumption | omega | (subst hj1; omega))) fa_18 o_18
          have hF := FR_set hF s_b (show (0 : Nat) ∈ ([0, 1] : List Nat) by decide) o_18
          have hFX := FX_set0 hFX s_b (rfl) o_18
          have fb_19 : f_18 b_p = .inl (cI, b_n, .inl g_14) := f_at o_18 (S_ne s_b_p s_b (show (1 : Nat) ≠ 0 by decide)) fa_14
          refine lv_iconst (v := 1) hx hb dX5_append_88 (by decide) ?_
          have hz_20 : (1 : Int32).toInt = 1 := by decide
          exact g_zret ((1 : Int32), f_18) hx hb hr hlocks hS (by first | exact Or.inl rfl | exact Or.inr rfl) rfl (⟨hI, hF, show ((1 : Int32).toInt = 1 ∧ 2 * (b_l.toInt + (y.toInt - x.toInt)) ≤ (b_n : Int) ∧ RWf cI jn S f_18 b (b_l.toInt + (y.toInt - x.toInt)) (fun j => if j < 2 * b_l.toInt then w j else v (2 * x.toInt + (j - 2 * b_l.toInt)))) ∨ ((1 : Int32).toInt = 0 ∧ (b_n : Int) < 2 * (b_l.toInt + (y.toInt - x.toInt))) from (Or.inl ⟨rfl, by subst hj1; omega, ⟨b_p, b_n, _, _, s_b, s_b_p, fa_18, fb_19, by subst hj1; omega, by
            refine RC_app hw hu (by subst hj1; omega) (by subst hj1; omega) (by subst hj1; omega) (by subst hj1; omega) ?_
            rw [eg_14]
            congr 1 <;> (subst hj1; omega)⟩⟩), show FX S (fun a9 => a9 = b) [] f f_18 from (by first | assumption | omega | (subst hj1; omega)), show (1 : Int32).toInt = 0 ∨ (1 : Int32).toInt = 1 from (by first | assumption | omega | (subst hj1; omega))⟩) hP hD hQ (Nat.le_of_ble_eq_true rfl) (Nat.le_of_ble_eq_true rfl) dX5_append_89
        · refine lv_iconst (v := 0) hx hb dX5_append_42 (by decide) ?_
          have hz_21 : (0 : Int32).toInt = 0 := by decide
          exact g_zret ((0 : Int32), f) hx hb hr hlocks hS (by first | exact Or.inl rfl | exact Or.inr rfl) rfl (⟨hI, hF, show ((0 : Int32).toInt = 1 ∧ 2 * (b_l.toInt + (y.toInt - x.toInt)) ≤ (b_n : Int) ∧ RWf cI jn S f b (b_l.toInt + (y.toInt - x.toInt)) (fun j => if j < 2 * b_l.toInt then w j else v (2 * x.toInt + (j - 2 * b_l.toInt)))) ∨ ((0 : Int32).toInt = 0 ∧ (b_n : Int) < 2 * (b_l.toInt + (y.toInt - x.toInt))) from (by first | exact Or.inr ⟨rfl, by subst hj1; omega⟩ | (exfalso; subst hj1; omega)), show FX S (fun a9 => a9 = b) [] f f from (by first | assumption | omega | (subst hj1; omega)), show (0 : Int32).toInt = 0 ∨ (0 : Int32).toInt = 1 from (by first | assumption | omega | (subst hj1; omega))⟩) hP hD hQ (Nat.le_of_ble_eq_true rfl) (Nat.le_of_ble_eq_true rfl) dX5_append_43
