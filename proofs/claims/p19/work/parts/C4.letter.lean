def refs (cR : ClassId) (n : Nat) (c : Nat → Option Nat) : va_E := .inl (cR, n, .inr (.inr (.inr (.inr c))))
/-- the reader's own rows -/
def NR (g lv hr : Nat → Nat) (a : Nat) : Prop := (∃ k, k < 6 ∧ a = lv k) ∨ (∃ k, k < 8 ∧ a = hr k) ∨ a = g 24 ∨ a = g 25
/-- the rows that letters name, in the class -/
def EnvC (cI cR : ClassId) (jn : Nat) (g lv hr : Nat → Nat) (S : Sg) (f : Nat → va_E) (E : Env1) (F : Int → Int) : Prop := (∃ ch, f (g 23) = refs cR 8 ch ∧ ∀ k : Nat, k < 8 → ch k = some (hr k)) ∧ ∃ (cb : Nat → Option Nat) (tm lk : Int32), f (g 20) = refs cR 488 cb ∧ f (g 12) = .inr (0, [.ref (g 20), .ref (g 21), .int tm, .int lk]) ∧ ∀ l : Int, 0 ≤ l → l < 8 → (F l = 1 → 0 < (E l).1 ∧ RWf cI jn S f (hr l.toNat) (E l).1 (E l).2) ∧ (F l ≠ 1 → (∃ w, RWf cI jn S f (hr l.toNat) 0 w) ∧ ((cb (8 * tm.toInt + l).toNat = none ∧ (E l).1 = 0) ∨ ∃ r, cb (8 * tm.toInt + l).toNat = some r ∧ 0 < (E l).1 ∧ RWf cI jn S f r (E l).1 (E l).2 ∧ ¬ NR g lv hr r))
theorem EnvC_h {cI cR : ClassId} {jn : Nat} {g lv hr : Nat → Nat} {S : Sg} {f : Nat → va_E} {E : Env1} {F : Int → Int} {c : Nat → Option Nat} {l : Int} {r : Nat} (h : EnvC cI cR jn g lv hr S f E F) (hf : f (g 23) = .inl (cR, 8, .inr (.inr (.inr (.inr c))))) (l0 : 0 ≤ l) (l1 : l < 8) (hc : c l.toNat = some r) : r = hr l.toNat := by
  obtain ⟨⟨ch, h1, h2⟩, -⟩ := h
  unfold refs at h1
  rw [hf] at h1
  cases h1
  have := h2 l.toNat (by omega)
  rw [hc] at this
  cases this
  rfl
theorem EnvC_fx {cI cR : ClassId} {jn : Nat} {g lv hr : Nat → Nat} {L : List Nat} {S : Sg} {f f1 : Nat → va_E} {E : Env1} {F : Int → Int} {B : Nat → Prop} {T T2 : List Nat} (h : EnvC cI cR jn g lv hr S f E F) (hG : SG g L S) (hF : FR S T f f1) (hX : FX S B T2 f f1) (ht : ∀ t ∈ ([12, 20, 23] : List Nat), t ∉ T) (h2 : 0 ∉ T2 ∧ 1 ∉ T2) (hb : ∀ k : Nat, k < 8 → ¬ B (hr k)) (hn : ∀ r, ¬ NR g lv hr r → ¬ B r) : EnvC cI cR jn g lv hr S f1 E F := by
  obtain ⟨⟨ch, h1, h3⟩, cb, tm, lk, h4, h5, h6⟩ := h
  refine ⟨⟨ch, ?_, h3⟩, cb, tm, lk, ?_, ?_, fun l l0 l1 => ?_⟩
  · rw [hF _ (by rw [gs_23 hG]; exact ht 23 (by decide))]; exact h1
  · rw [hF _ (by rw [gs_20 hG]; exact ht 20 (by decide))]; exact h4
  · rw [hF _ (by rw [gs_12 hG]; exact ht 12 (by decide))]; exact h5
  · obtain ⟨q1, q2⟩ := h6 l l0 l1
    refine ⟨fun e => ⟨(q1 e).1, RWf_fx (q1 e).2 hX (hb _ (by omega)) h2⟩, fun e => ?_⟩
    obtain ⟨⟨w9, q3⟩, q4⟩ := q2 e
    refine ⟨⟨w9, RWf_fx q3 hX (hb _ (by omega)) h2⟩, ?_⟩
    rcases q4 with q4 | ⟨r, r1, r2, r3, r4⟩
    · exact Or.inl q4
    · exact Or.inr ⟨r, r1, r2, RWf_fx r3 hX (hn r r4) h2, r4⟩
/-- a letter's row is told in the text just if the reader's row for it has beats -/
theorem EnvC_1 {cI cR : ClassId} {jn : Nat} {g lv hr : Nat → Nat} {S : Sg} {f : Nat → va_E} {E : Env1} {F : Int → Int} {l : Int} {p N : Nat} {len : Int32} {c : Nat → Int32} {r : Nat} (h : EnvC cI cR jn g lv hr S f E F) (l0 : 0 ≤ l) (l1 : l < 8) (hr9 : r = hr l.toNat) (hs : S r = (0, p, N)) (h1 : f r = .inr (5, [.int (nI jn), .int (nI (2 * jn)), .ref p, .int len])) (h2 : f p = .inl (cI, N, .inl c)) : (0 < len.toInt → F l = 1) ∧ (len.toInt ≤ 0 → F l ≠ 1) ∧ (F l = 1 → 0 < (E l).1 ∧ len.toInt = (E l).1 ∧ RC c (E l).2 (E l).1) := by
  obtain ⟨-, cb, tm, lk, -, -, h6⟩ := h
  obtain ⟨q1, q2⟩ := h6 l l0 l1
  rw [← hr9] at q1 q2
  refine ⟨fun e => ?_, fun e e2 => ?_, fun q => ?_⟩
  · by_cases q : F l = 1
    · exact q
    · obtain ⟨⟨w9, q3⟩, -⟩ := q2 q
      obtain ⟨b1, b2⟩ := RWf_at q3 hs h1 h2
      omega
  · obtain ⟨a1, a2⟩ := q1 e2
    obtain ⟨b1, b2⟩ := RWf_at a2 hs h1 h2
    omega
  · obtain ⟨a1, a2⟩ := q1 q
    obtain ⟨b1, b2⟩ := RWf_at a2 hs h1 h2
    exact ⟨a1, b1, b2⟩
theorem EnvC_b {cI cR : ClassId} {jn : Nat} {g lv hr : Nat → Nat} {S : Sg} {f : Nat → va_E} {E : Env1} {F : Int → Int} {l : Int} {w : Option Nat} (h : EnvC cI cR jn g lv hr S f E F) (l0 : 0 ≤ l) (l1 : l < 8) (hF : F l ≠ 1) (he : ∀ (c9 : Nat → Option Nat) (tm9 lk9 : Int32), f (g 20) = refs cR 488 c9 → f (g 12) = .inr (0, [.ref (g 20), .ref (g 21), .int tm9, .int lk9]) → w = c9 (8 * tm9.toInt + l).toNat) : (w = none ∧ (E l).1 = 0) ∨ ∃ r, w = some r ∧ 0 < (E l).1 ∧ RWf cI jn S f r (E l).1 (E l).2 ∧ ¬ NR g lv hr r := by
  obtain ⟨-, cb, tm, lk, h4, h5, h6⟩ := h
  have e := he cb tm lk h4 h5
  rw [e]
  exact ((h6 l l0 l1).2 hF).2
theorem ap_1 {w v : Int → Int} {n i z : Int} (hz : z = 0) : (if i < 2 * n then w i else v (2 * z + (i - 2 * n))) = (if i < 2 * n then w i else v (i - 2 * n)) := by
  rw [show 2 * z + (i - 2 * n) = i - 2 * n by omega]
set_option maxRecDepth 100000 in
set_option maxHeartbeats 4000000 in
theorem t_X0_rowAtm (l : Launch) (D : va_G) (cI cR cM : ClassId) (sz : Nat) {jn : Nat} {g : Nat → Nat} {L : List Nat} {S : Sg} {f : Nat → va_E} {x y : Int32}  (hj : 1 ≤ jn ∧ jn ≤ 3) (hG : SG g L S) (hI : IN jn cI cR cM g L S f) (hj1 : jn = 1) (hx0 : 0 ≤ x.toInt ∧ x.toInt ≤ 60) : Met l yX0_rowAt wsX0_rowAt ({ frames := 0, cells := 0, slots := 0, locals := 0 }) (P0 D cI cR cM [.ref (g 12), .int x, .int y] sz (va_pl L f)) (QR (fun r => (∀ z, r = some z → ∃ p n, isRow L S z p n) ∧ ((¬ (0 ≤ y.toInt ∧ y.toInt < 8) ∧ r = none) ∨ ((0 ≤ y.toInt ∧ y.toInt < 8) ∧ ∀ c9 : Nat → Option Nat, f (g 20) = .inl (cR, 488, .inr (.inr (.inr (.inr c9)))) → r = c9 (8 * x.toInt + y.toInt).toNat))) sz) 0 0 (va_A [] sz) := by
  refine go (cc := cX0_rowAt) (maxL := 3) (ret := (some (.object "JugglingHall$Row"))) (by decide +kernel) rfl (Nat.le_of_ble_eq_true rfl) ?_
  intro p e s m below meth c ls args Q hQ hsz hx hb hr hml hts hown hlocks hnm hP hK hD hl
  subst hsz
  have hS : va_S (va_A [] s.heap.size) s.heap s.heap [] := va_S.rf
  have hA : ∀ q, s.heap.size ≤ q → va_A [] s.heap.size q := fun q h => Or.inr h
  have hl : lv_has ls 3 [(0, .ref (g 12)), (1, .int x), (2, .int y)] := hl
  refine lv_iload_n hx hb dX0_rowAt_0 rfl (lv_at hl 2 rfl) ?_
  refine a_if_lt (u := y.toInt) (tgt := 10) hx hb dX0_rowAt_1 (by decide) (rfl) (fun c_1 => ?_) (fun c_1 => ?_)
  · refine lv_null hx hb dX0_rowAt_10 ?_
    refine lv_goto (tgt := 25) hx hb dX0_rowAt_11 (by decide) ?_
    refine W.eq (g2 := F0 m 25 ls [va_rf none]) rfl ?_
    exact rr_aret hx hb hr hlocks hS (⟨(fun r9 h9 => by cases h9), (Or.inl ⟨by omega, rfl⟩)⟩) hQ dX0_rowAt_25
  · refine lv_iload_n hx hb dX0_rowAt_4 rfl (lv_at hl 2 rfl) ?_
    refine lv_bipush (v := 8) hx hb dX0_rowAt_5 (by decide) ?_
    refine a_icmp_lt (u := y.toInt) (v := 8) (tgt := 14) hx hb dX0_rowAt_7 (by decide) (rfl) (by decide) (fun c_2 => ?_) (fun c_2 => ?_)
    · refine lv_aload_n hx hb dX0_rowAt_14 rfl (lv_at hl 0 rfl) ?_
      obtain ⟨tm_3, lk_3, fg_3, iv0_3, iv1_3, iv2_3⟩ := op_12 hI (gm_12 hG) (gs_12 hG)
      refine t_get (D := D) (L := L) (f := f) (ci := 0) (v := .ref (g 20)) (C := RX0) (T := TX0) (N := 4) hx hb hts (by decide +kernel) hown hK.1 hP (gm_12 hG) fg_3 rfl 0 (by decide) (hts (.fieldLink RX0 11 "JugglingHall$Book" "rows" "[LJugglingHall$Row;") (by decide +kernel)) (fun _ h9 => h9) rfl dX0_rowAt_15 ?_
      refine lv_iload_n hx hb dX0_rowAt_18 rfl (lv_at hl 1 rfl) ?_
      refine lv_bipush (v := 8) hx hb dX0_rowAt_19 (by decide) ?_
      refine a_imul (u := x.toInt) (v := 8) hx hb dX0_rowAt_21 (rfl) (by decide) (by subst hj1; omega) (fun z_4 e_4 => ?_)
      refine lv_iload_n hx hb dX0_rowAt_22 rfl (lv_at hl 2 rfl) ?_
      refine a_iadd (u := (x.toInt * 8)) (v := y.toInt) hx hb dX0_rowAt_23 (e_4) (rfl) (by subst hj1; omega) (fun z_5 e_5 => ?_)
      obtain ⟨c_6, fg_6, iv0_6⟩ := op_20 hI (gm_20 hG) (gs_20 hG)
      refine t_aald (L := L) (f := f) (y := c_6) (u := ((x.toInt * 8) + y.toInt)) hx hb hK.1 hP (gm_20 hG) 1 fg_6 rfl dX0_rowAt_24 (e_5) (by subst hj1; omega) (fun w_7 q_7 => ?_)
      have ho_7 : ∀ r, w_7 = some r → ∃ p n, isRow L S r p n := fun r h => iv0_6 ((x.toInt * 8) + y.toInt) (by subst hj1; omega) (by subst hj1; omega) r (q_7 ▸ h)
      refine W.eq (g2 := F0 m 25 ls [va_rf w_7]) rfl ?_
      exact rr_aret hx hb hr hlocks hS (⟨(ho_7), (Or.inr ⟨by omega, fun c9 h9 => by rw [fg_6] at h9; cases h9; rw [q_7]; congr 1; omega⟩)⟩) hQ dX0_rowAt_25
    · refine lv_null hx hb dX0_rowAt_10 ?_
      refine lv_goto (tgt := 25) hx hb dX0_rowAt_11 (by decide) ?_
      refine W.eq (g2 := F0 m 25 ls [va_rf none]) rfl ?_
      exact rr_aret hx hb hr hlocks hS (⟨(fun r9 h9 => by cases h9), (Or.inl ⟨by omega, rfl⟩)⟩) hQ dX0_rowAt_25
set_option maxRecDepth 100000 in
set_option maxHeartbeats 4000000 in
theorem t_X0_rowLatestm (l : Launch) (D : va_G) (cI cR cM : ClassId) (sz : Nat) {jn : Nat} {g : Nat → Nat} {L : List Nat} {S : Sg} {f : Nat → va_E} {y : Int32}  (hj : 1 ≤ jn ∧ jn ≤ 3) (hG : SG g L S) (hI : IN jn cI cR cM g L S f) (hj1 : jn = 1) : Met l yX0_rowLatest wsX0_rowLatest ({ frames := 1, cells := 0, slots := 0, locals := 22 }) (P0 D cI cR cM [.ref (g 12), .int y] sz (va_pl L f)) (QR (fun r => (∀ z, r = some z → ∃ p n, isRow L S z p n) ∧ ((¬ (0 ≤ y.toInt ∧ y.toInt < 8) ∧ r = none) ∨ ((0 ≤ y.toInt ∧ y.toInt < 8) ∧ ∀ (c9 : Nat → Option Nat) (tm9 lk9 : Int32), f (g 20) = refs cR 488 c9 → f (g 12) = .inr (0, [.ref (g 20), .ref (g 21), .int tm9, .int lk9]) → r = c9 (8 * tm9.toInt + y.toInt).toNat))) sz) 0 0 (va_A [] sz) := by
  refine go (cc := cX0_rowLatest) (maxL := 2) (ret := (some (.object "JugglingHall$Row"))) (by decide +kernel) rfl (Nat.le_of_ble_eq_true rfl) ?_
  intro p e s m below meth c ls args Q hQ hsz hx hb hr hml hts hown hlocks hnm hP hK hD hl
  subst hsz
  have hS : va_S (va_A [] s.heap.size) s.heap s.heap [] := va_S.rf
  have hA : ∀ q, s.heap.size ≤ q → va_A [] s.heap.size q := fun q h => Or.inr h
  have hl : lv_has ls 2 [(0, .ref (g 12)), (1, .int y)] := hl
  refine lv_aload_n hx hb dX0_rowLatest_0 rfl (lv_at hl 0 rfl) ?_
  refine lv_aload_n hx hb dX0_rowLatest_1 rfl (lv_at hl 0 rfl) ?_
  obtain ⟨tm_1, lk_1, fg_1, iv0_1, iv1_1, iv2_1⟩ := op_12 hI (gm_12 hG) (gs_12 hG)
  refine t_get (D := D) (L := L) (f := f) (ci := 0) (v := .int tm_1) (C := RX0) (T := TX0) (N := 4) hx hb hts (by decide +kernel) hown hK.1 hP (gm_12 hG) fg_1 rfl 2 (by decide) (hts (.fieldLink RX0 23 "JugglingHall$Book" "time" "I") (by decide +kernel)) (fun _ h9 => h9) rfl dX0_rowLatest_2 ?_
  refine lv_iload_n hx hb dX0_rowLatest_5 rfl (lv_at hl 1 rfl) ?_
  refine roR (va_runV (As := [.int tm_1, .int y]) (rest := []) ⟨hx, hb, hml, hown, hts⟩ (t_X0_rowAtm l D cI cR cM _   hj hG hI  (by first | assumption | omega | (subst hj1; omega)) (by first | assumption | omega | (subst hj1; omega))) (cwV 2 hts gX0_rowLatest_X0_rowAt rfl rfl rfl (by decide +kernel) ⟨Nat.le_of_ble_eq_true rfl, Nat.le_of_ble_eq_true rfl⟩) (pre_T hK hP hD (gm_12 hG) fg_1 rfl) rfl rfl hl.1 rfl (lv_room (Nat.le_of_ble_eq_true rfl)) dX0_rowLatest_6 ⟨Nat.le_of_ble_eq_true rfl, Nat.le_of_ble_eq_true rfl⟩) hS hA hP (fun w_2 H locs hw hP hS => ?_)
  obtain ⟨ho_2, he_2⟩ : (∀ z, w_2 = some z → ∃ p n, isRow L S z p n) ∧ ((¬ (0 ≤ y.toInt ∧ y.toInt < 8) ∧ w_2 = none) ∨ ((0 ≤ y.toInt ∧ y.toInt < 8) ∧ ∀ c9 : Nat → Option Nat, f (g 20) = .inl (cR, 488, .inr (.inr (.inr (.inr c9)))) → w_2 = c9 (8 * tm_1.toInt + y.toInt).toNat)) := hw
  refine W.eq (g2 := F0 m 9 ls [va_rf w_2]) rfl ?_
  exact rr_aret hx hb hr hlocks hS (⟨(ho_2), (by
    rcases he_2 with h9 | ⟨h8, h9⟩
    · exact Or.inl h9
    · exact Or.inr ⟨h8, fun c9 tm9 lk9 q1 q2 => by rw [fg_1] at q2; cases q2; exact h9 c9 q1⟩)⟩) hQ dX0_rowLatest_9
set_option maxRecDepth 100000 in
set_option maxHeartbeats 4000000 in
theorem t_X0_rowSeenm (l : Launch) (D : va_G) (cI cR cM : ClassId) (sz : Nat) {jn : Nat} {g : Nat → Nat} {L : List Nat} {S : Sg} {f : Nat → va_E} {y : Int32}  (hj : 1 ≤ jn ∧ jn ≤ 3) (hG : SG g L S) (hI : IN jn cI cR cM g L S f) (hj1 : jn = 1) : Met l yX0_rowSeen wsX0_rowSeen ({ frames := 1, cells := 0, slots := 0, locals := 22 }) (P0 D cI cR cM [.ref (g 12), .int y] sz (va_pl L f)) (QR (fun r => (∀ z, r = some z → ∃ p n, isRow L S z p n) ∧ ((¬ (0 ≤ y.toInt ∧ y.toInt < 8) ∧ r = none) ∨ ((0 ≤ y.toInt ∧ y.toInt < 8) ∧ ∀ (c9 : Nat → Option Nat) (tm9 lk9 : Int32), f (g 20) = refs cR 488 c9 → f (g 12) = .inr (0, [.ref (g 20), .ref (g 21), .int tm9, .int lk9]) → r = c9 (8 * lk9.toInt + y.toInt).toNat))) sz) 0 0 (va_A [] sz) := by
  refine go (cc := cX0_rowSeen) (maxL := 2) (ret := (some (.object "JugglingHall$Row"))) (by decide +kernel) rfl (Nat.le_of_ble_eq_true rfl) ?_
  intro p e s m below meth c ls args Q hQ hsz hx hb hr hml hts hown hlocks hnm hP hK hD hl
  subst hsz
  have hS : va_S (va_A [] s.heap.size) s.heap s.heap [] := va_S.rf
  have hA : ∀ q, s.heap.size ≤ q → va_A [] s.heap.size q := fun q h => Or.inr h
  have hl : lv_has ls 2 [(0, .ref (g 12)), (1, .int y)] := hl
  refine lv_aload_n hx hb dX0_rowSeen_0 rfl (lv_at hl 0 rfl) ?_
  refine lv_aload_n hx hb dX0_rowSeen_1 rfl (lv_at hl 0 rfl) ?_
  obtain ⟨tm_1, lk_1, fg_1, iv0_1, iv1_1, iv2_1⟩ := op_12 hI (gm_12 hG) (gs_12 hG)
  refine t_get (D := D) (L := L) (f := f) (ci := 0) (v := .int lk_1) (C := RX0) (T := TX0) (N := 4) hx hb hts (by decide +kernel) hown hK.1 hP (gm_12 hG) fg_1 rfl 3 (by decide) (hts (.fieldLink RX0 31 "JugglingHall$Book" "lookTime" "I") (by decide +kernel)) (fun _ h9 => h9) rfl dX0_rowSeen_2 ?_
  refine lv_iload_n hx hb dX0_rowSeen_5 rfl (lv_at hl 1 rfl) ?_
  refine roR (va_runV (As := [.int lk_1, .int y]) (rest := []) ⟨hx, hb, hml, hown, hts⟩ (t_X0_rowAtm l D cI cR cM _   hj hG hI  (by first | assumption | omega | (subst hj1; omega)) (by first | assumption | omega | (subst hj1; omega))) (cwV 2 hts gX0_rowSeen_X0_rowAt rfl rfl rfl (by decide +kernel) ⟨Nat.le_of_ble_eq_true rfl, Nat.le_of_ble_eq_true rfl⟩) (pre_T hK hP hD (gm_12 hG) fg_1 rfl) rfl rfl hl.1 rfl (lv_room (Nat.le_of_ble_eq_true rfl)) dX0_rowSeen_6 ⟨Nat.le_of_ble_eq_true rfl, Nat.le_of_ble_eq_true rfl⟩) hS hA hP (fun w_2 H locs hw hP hS => ?_)
  obtain ⟨ho_2, he_2⟩ : (∀ z, w_2 = some z → ∃ p n, isRow L S z p n) ∧ ((¬ (0 ≤ y.toInt ∧ y.toInt < 8) ∧ w_2 = none) ∨ ((0 ≤ y.toInt ∧ y.toInt < 8) ∧ ∀ c9 : Nat → Option Nat, f (g 20) = .inl (cR, 488, .inr (.inr (.inr (.inr c9)))) → w_2 = c9 (8 * lk_1.toInt + y.toInt).toNat)) := hw
  refine W.eq (g2 := F0 m 9 ls [va_rf w_2]) rfl ?_
  exact rr_aret hx hb hr hlocks hS (⟨(ho_2), (by
    rcases he_2 with h9 | ⟨h8, h9⟩
    · exact Or.inl h9
    · exact Or.inr ⟨h8, fun c9 tm9 lk9 q1 q2 => by rw [fg_1] at q2; cases q2; exact h9 c9 q1⟩)⟩) hQ dX0_rowSeen_9
set_option maxRecDepth 100000 in
set_option maxHeartbeats 4000000 in
theorem t_X4_readLetterm (l : Launch) (D : va_G) (cI cR cM : ClassId) (sz : Nat) {jn : Nat} {g : Nat → Nat} {L : List Nat} {S : Sg} {f : Nat → va_E} {b b_p b_n : Nat} {b_l : Int32} {b_c : Nat → Int32} {ks vs : Nat → Int} {i : Nat} {w : Int → Int} {lv gr : Nat → Nat} {E : Env1} {F : Int → Int} (hj : 1 ≤ jn ∧ jn ≤ 3) (hG : SG g L S) (hI : IN jn cI cR cM g L S f) (m_b : b ∈ L) (s_b : S b = (0, b_p, b_n)) (f_b : f b = .inr (5, [.int (nI jn), .int (nI (2 * jn)), .ref b_p, .int b_l])) (f_b_p : f b_p = .inl (cI, b_n, .inl b_c)) (hj1 : jn = 1) (hC : TKm cI g ks vs f i) (hKO : KO ks vs) (hk2 : ks i = 2) (hEC : EnvC cI cR jn g lv gr S f E F) (hw : RC b_c w b_l.toInt) : Met l yX4_readLetter wsX4_readLetter ({ frames := 2, cells := 0, slots := 0, locals := 88 }) (P0 D cI cR cM [.ref (g 13), .ref b] sz (va_pl L f)) (QG (S := Int32 × (Nat → va_E)) (fun u => some (.int u.1)) (fun u => va_pl L u.2) (fun u => IN jn cI cR cM g L S u.2 ∧ FR S [0, 1, 13, 14] f u.2 ∧ ((u.1.toInt = 1 ∧ 0 < (E (vs i)).1 ∧ TKm cI g ks vs u.2 (i + 1) ∧ 2 * (b_l.toInt + (E (vs i)).1) ≤ (b_n : Int) ∧ RWf cI jn S u.2 b (b_l.toInt + (E (vs i)).1) (fun j => if j < 2 * b_l.toInt then w j else (E (vs i)).2 (j - 2 * b_l.toInt))) ∨ (u.1.toInt = 0 ∧ ((E (vs i)).1 ≤ 0 ∨ (b_n : Int) < 2 * (b_l.toInt + (E (vs i)).1)))) ∧ (FX S (fun a9 => a9 = b) [13, 14] f u.2) ∧ (u.1.toInt = 0 ∨ u.1.toInt = 1)) D (va_A (va_pl L f) sz)) 0 0 (va_A (va_pl L f) sz) := by
  refine go (cc := cX4_readLetter) (maxL := 4) (ret := (some .boolean)) (by decide +kernel) rfl (Nat.le_of_ble_eq_true rfl) ?_
  intro p e s m below meth c ls args Q hQ hsz hx hb hr hml hts hown hlocks hnm hP hK hD hl
  subst hsz
  have hD := hD.self (sz := s.heap.size)
  generalize hAe : va_A (va_pl L f) s.heap.size = A at hD hQ
  have hA : ∀ q, s.heap.size ≤ q → A q := fun q h => by rw [← hAe]; exact Or.inr h
  have hS : va_S A s.heap s.heap [] := va_S.rf
  have hFX : FX S (fun a9 => a9 = b) [13, 14] f f := FX_rf
  have hF : FR S [0, 1, 13, 14] f f := FR_rf
  have hl : lv_has ls 4 [(0, .ref (g 13)), (1, .ref b)] := hl
  obtain ⟨v1_b, v2_b, v3_b, m_b_p, s_b_p⟩ := iv_0 hI m_b s_b f_b
  obtain ⟨w1_b, w2_b, w3_b, w4_b, w5_b⟩ := lenw hj v1_b v2_b v3_b
  have k_b := iv_1 hI m_b_p s_b_p f_b_p
  obtain ⟨cnt_1, nx_1, kd_1, vl_1, st_1, ls_1, fg_1, iv0_1, iv1_1, iv2_1⟩ := op_14 hI (gm_14 hG) (gs_14 hG)
  obtain ⟨kk_2, kv_2⟩ := TKm_k hC fg_1
  have hv9 := kv_2 (Or.inr hk2)
  have hv8 := (hKO i).2.2 hk2
  refine lv_aload_n hx hb dX4_readLetter_0 rfl (lv_at hl 0 rfl) ?_
  obtain ⟨fa_3, pl_3, fg_3⟩ := op_13 hI (gm_13 hG) (gs_13 hG)
  refine t_get (D := D) (L := L) (f := f) (ci := 4) (v := .ref (g 14)) (C := RX4) (T := TX4) (N := 11) hx hb hts (by decide +kernel) hown hK.1 hP (gm_13 hG) fg_3 rfl 1 (by decide) (hts (.fieldLink RX4 41 "JugglingHall$Reader" "tokens" "LJugglingHall$Tokens;") (by decide +kernel)) (fun _ h9 => h9) rfl dX4_readLetter_1 ?_
  refine t_getN (D := D) (L := L) (f := f) (ci := 8) (v := .int vl_1) (C := RX8) (T := TX8) (N := 10) (host := "JugglingHall") hx hb hts (by decide +kernel) hown hK.1 hP (gm_14 hG) fg_1 rfl 7 (by decide) (hK.nw (.fieldLinkNest RX4 113 "JugglingHall$Tokens" "value" "I" "JugglingHall") (by decide +kernel) rfl) (fun _ h9 => h9) rfl dX4_readLetter_4 ?_
  refine lv_istore_n (lv' := [(2, .int vl_1), (0, .ref (g 13)), (1, .ref b)]) hx hb dX4_readLetter_7 rfl hl (by decide) rfl (fun ls hl => ?_)
  refine lv_iload_n hx hb dX4_readLetter_8 rfl (lv_at hl 0 rfl) ?_
  refine a_if_lt (u := vl_1.toInt) (tgt := 18) hx hb dX4_readLetter_9 (by decide) (rfl) (fun c_4 => ?_) (fun c_4 => ?_)
  · refine lv_aload_n hx hb dX4_readLetter_18 rfl (lv_at hl 1 rfl) ?_
    refine lv_iconst (v := 1) hx hb dX4_readLetter_19 (by decide) ?_
    have hz_5 : (1 : Int32).toInt = 1 := by decide
    refine call_p (va_runV (As := [.int 1]) (rest := []) ⟨hx, hb, hml, hown, hts⟩ (t_X4_fail l D cI cR cM _   hj hG hI  ) (cwV 1 hts gX4_readLetter_X4_fail rfl rfl rfl (by decide +kernel) ⟨Nat.le_of_ble_eq_true rfl, Nat.le_of_ble_eq_true rfl⟩) (pre_T hK hP hD (gm_13 hG) fg_3 rfl) rfl rfl hl.1 rfl (lv_room (Nat.le_of_ble_eq_true rfl)) dX4_readLetter_20 ⟨Nat.le_of_ble_eq_true rfl, Nat.le_of_ble_eq_true rfl⟩) hD hS hA (fun u_6 H locs hw hP hD hS => ?_)
    obtain ⟨r_6, f_6⟩ := u_6
    obtain ⟨hI, hF_6, h0_6, h01_6⟩ : IN jn cI cR cM g L S f_6 ∧ FR S [13] f f_6 ∧ (r_6.toInt = 0) ∧ (r_6.toInt = 0 ∨ r_6.toInt = 1) := hw
    have hP : va_P D vwCl (va_pl L f_6) H := hP
    have hD : va_D A (va_pl L f_6) := hD
    have hF := FR_tr hF hF_6 (by decide)
    have hFX := FX_trR hFX hF_6 (by decide) (by decide)
    have fb_7 : f_6 b = .inr (5, [.int (nI jn), .int (nI (2 * jn)), .ref b_p, .int b_l]) := FR_at hF_6 s_b (show (0 : Nat) ∉ ([13] : List Nat) by decide) f_b
    have fb_8 : f_6 b_p = .inl (cI, b_n, .inl b_c) := FR_at hF_6 s_b_p (show (1 : Nat) ∉ ([13] : List Nat) by decide) f_b_p
    have fb_9 : f_6 (g 14) = .inr (8, [.ref (g 11), .ref (g 31), .ref (g 32), .ref (g 33), .int cnt_1, .int nx_1, .int kd_1, .int vl_1, .int st_1, .int ls_1]) := FR_at hF_6 (gs_14 hG) (show (14 : Nat) ∉ ([13] : List Nat) by decide) fg_1
    exact g_zret (r_6, f_6) hx hb hr hlocks hS (b01 (by subst hj1; omega)) rfl (⟨hI, hF, show (r_6.toInt = 1 ∧ 0 < (E (vs i)).1 ∧ TKm cI g ks vs f_6 (i + 1) ∧ 2 * (b_l.toInt + (E (vs i)).1) ≤ (b_n : Int) ∧ RWf cI jn S f_6 b (b_l.toInt + (E (vs i)).1) (fun j => if j < 2 * b_l.toInt then w j else (E (vs i)).2 (j - 2 * b_l.toInt))) ∨ (r_6.toInt = 0 ∧ ((E (vs i)).1 ≤ 0 ∨ (b_n : Int) < 2 * (b_l.toInt + (E (vs i)).1))) from (by exfalso; omega), show FX S (fun a9 => a9 = b) [13, 14] f f_6 from (by first | assumption | omega | (subst hj1; omega)), show r_6.toInt = 0 ∨ r_6.toInt = 1 from (by first | assumption | omega | (subst hj1; omega))⟩) hP hD hQ (Nat.le_of_ble_eq_true rfl) (Nat.le_of_ble_eq_true rfl) dX4_readLetter_23
  · refine lv_iload_n hx hb dX4_readLetter_12 rfl (lv_at hl 0 rfl) ?_
    refine lv_bipush (v := 8) hx hb dX4_readLetter_13 (by decide) ?_
    refine a_icmp_lt (u := vl_1.toInt) (v := 8) (tgt := 24) hx hb dX4_readLetter_15 (by decide) (rfl) (by decide) (fun c_10 => ?_) (fun c_10 => ?_)
    · refine lv_aload_n hx hb dX4_readLetter_24 rfl (lv_at hl 1 rfl) ?_
      refine t_get (D := D) (L := L) (f := f) (ci := 4) (v := .ref (g 23)) (C := RX4) (T := TX4) (N := 11) hx hb hts (by decide +kernel) hown hK.1 hP (gm_13 hG) fg_3 rfl 5 (by decide) (hts (.fieldLink RX4 21 "JugglingHall$Reader" "here" "[LJugglingHall$Row;") (by decide +kernel)) (fun _ h9 => h9) rfl dX4_readLetter_25 ?_
      refine lv_iload_n hx hb dX4_readLetter_28 rfl (lv_at hl 0 rfl) ?_
      obtain ⟨c_11, fg_11, iv0_11⟩ := op_23 hI (gm_23 hG) (gs_23 hG)
      refine t_aald (L := L) (f := f) (y := c_11) (u := vl_1.toInt) hx hb hK.1 hP (gm_23 hG) 1 fg_11 rfl dX4_readLetter_29 (rfl) (by subst hj1; omega) (fun w_12 q_12 => ?_)
      obtain ⟨r_12, p_12, n_12, er_12, m_12, s_12⟩ := iv0_11 vl_1.toInt (by subst hj1; omega) (by subst hj1; omega)
      have q_12 := q_12.trans er_12
      subst q_12
      refine W.eq (g2 := F0 m 30 ls [.ref r_12]) rfl ?_
      have hh_12 : r_12 = gr (vs i).toNat := EnvC_h (l := vs i) hEC fg_11 (by subst hj1; omega) (by subst hj1; omega) (by rw [show vs i = vl_1.toInt by omega]; exact er_12)
      obtain ⟨len_13, fg_13, v1_13, v2_13, v3_13, mp_13, sp_13⟩ := op_0 hI m_12 s_12
      obtain ⟨w1_13, w2_13, w3_13, w4_13, w5_13⟩ := lenw hj v1_13 v2_13 v3_13
      obtain ⟨c_14, fg_14, iv0_14⟩ := op_1 hI mp_13 sp_13
      obtain ⟨ha_12, hb_12, hd_12⟩ := EnvC_1 hEC (l := vs i) (by subst hj1; omega) (by subst hj1; omega) hh_12 s_12 fg_13 fg_14
      refine t_getN (D := D) (L := L) (f := f) (ci := 5) (v := .int len_13) (C := RX5) (T := TX5) (N := 4) (host := "JugglingHall") hx hb hts (by decide +kernel) hown hK.1 hP m_12 fg_13 rfl 3 (by decide) (hK.nw (.fieldLinkNest RX4 62 "JugglingHall$Row" "length" "I" "JugglingHall") (by decide +kernel) rfl) (fun _ h9 => h9) rfl dX4_readLetter_30 ?_
      refine a_if_le (u := len_13.toInt) (tgt := 45) hx hb dX4_readLetter_33 (by decide) (rfl) (fun c_15 => ?_) (fun c_15 => ?_)
      · refine lv_aload_n hx hb dX4_readLetter_45 rfl (lv_at hl 1 rfl) ?_
        refine t_get (D := D) (L := L) (f := f) (ci := 4) (v := .ref (g 12)) (C := RX4) (T := TX4) (N := 11) hx hb hts (by decide +kernel) hown hK.1 hP (gm_13 hG) fg_3 rfl 2 (by decide) (hts (.fieldLink RX4 45 "JugglingHall$Reader" "book" "LJugglingHall$Book;") (by decide +kernel)) (fun _ h9 => h9) rfl dX4_readLetter_46 ?_
        refine lv_iload_n hx hb dX4_readLetter_49 rfl (lv_at hl 0 rfl) ?_
        obtain ⟨tm_16, lk_16, fg_16, iv0_16, iv1_16, iv2_16⟩ := op_12 hI (gm_12 hG) (gs_12 hG)
        refine roR (va_runV (As := [.int vl_1]) (rest := []) ⟨hx, hb, hml, hown, hts⟩ (t_X0_rowLatestm l D cI cR cM _   hj hG hI  (by first | assumption | omega | (subst hj1; omega))) (cwV 1 hts gX4_readLetter_X0_rowLatest rfl rfl rfl (by decide +kernel) ⟨Nat.le_of_ble_eq_true rfl, Nat.le_of_ble_eq_true rfl⟩) (pre_T hK hP hD (gm_12 hG) fg_16 rfl) rfl rfl hl.1 rfl (lv_room (Nat.le_of_ble_eq_true rfl)) dX4_readLetter_50 ⟨Nat.le_of_ble_eq_true rfl, Nat.le_of_ble_eq_true rfl⟩) hS hA hP (fun w_17 H locs hw hP hS => ?_)
        obtain ⟨ho_17, he_17⟩ : (∀ z, w_17 = some z → ∃ p n, isRow L S z p n) ∧ ((¬ (0 ≤ vl_1.toInt ∧ vl_1.toInt < 8) ∧ w_17 = none) ∨ ((0 ≤ vl_1.toInt ∧ vl_1.toInt < 8) ∧ ∀ (c9 : Nat → Option Nat) (tm9 lk9 : Int32), f (g 20) = refs cR 488 c9 → f (g 12) = .inr (0, [.ref (g 20), .ref (g 21), .int tm9, .int lk9]) → w_17 = c9 (8 * tm9.toInt + vl_1.toInt).toNat)) := hw
        rcases x_opt w_17 with e_18 | ⟨r_18, e_18⟩
        · subst e_18
          refine W.eq (g2 := F0 m 53 ls [.null]) rfl ?_
          have hl : lv_has ls 4 [(2, .int vl_1), (0, .ref (g 13)), (1, .ref b)] := hl
          refine lv_astore_nN (lv' := [(3, .null), (2, .int vl_1), (0, .ref (g 13)), (1, .ref b)]) hx hb dX4_readLetter_53 rfl hl (by decide) rfl (fun ls hl => ?_)
          have hz9 := EnvC_b (w := none) hEC (l := vs i) (by subst hj1; omega) (by subst hj1; omega) (hb_12 (by subst hj1; omega)) (fun c9 tm9 lk9 q1 q2 => he_17.elim (fun h9 => absurd (show 0 ≤ vl_1.toInt ∧ vl_1.toInt < 8 by omega) h9.1) (fun h9 => by rw [h9.2 c9 tm9 lk9 q1 q2, show vl_1.toInt = vs i by omega]))
          refine lv_aload_nN hx hb dX4_readLetter_54 rfl (lv_at hl 0 rfl) ?_
          refine lv_ifnonnullN hx hb dX4_readLetter_55 ?_
          refine lv_aload_n hx hb dX4_readLetter_58 rfl (lv_at hl 2 rfl) ?_
          refine lv_bipush (v := 6) hx hb dX4_readLetter_59 (by decide) ?_
          have hz_19 : (6 : Int32).toInt = 6 := by decide
          refine call_p (va_runV (As := [.int 6]) (rest := []) ⟨hx, hb, hml, hown, hts⟩ (t_X4_fail l D cI cR cM _   hj hG hI  ) (cwV 1 hts gX4_readLetter_X4_fail rfl rfl rfl (by decide +kernel) ⟨Nat.le_of_ble_eq_true rfl, Nat.le_of_ble_eq_true rfl⟩) (pre_T hK hP hD (gm_13 hG) fg_3 rfl) rfl rfl hl.1 rfl (lv_room (Nat.le_of_ble_eq_true rfl)) dX4_readLetter_61 ⟨Nat.le_of_ble_eq_true rfl, Nat.le_of_ble_eq_true rfl⟩) hD hS hA (fun u_20 H locs hw hP hD hS => ?_)
          obtain ⟨r_20, f_20⟩ := u_20
          obtain ⟨hI, hF_20, h0_20, h01_20⟩ : IN jn cI cR cM g L S f_20 ∧ FR S [13] f f_20 ∧ (r_20.toInt = 0) ∧ (r_20.toInt = 0 ∨ r_20.toInt = 1) := hw
          have hP : va_P D vwCl (va_pl L f_20) H := hP
          have hD : va_D A (va_pl L f_20) := hD
          have hF := FR_tr hF hF_20 (by decide)
          have hFX := FX_trR hFX hF_20 (by decide) (by decide)
          have fb_21 : f_20 b = .inr (5, [.int (nI jn), .int (nI (2 * jn)), .ref b_p, .int b_l]) := FR_at hF_20 s_b (show (0 : Nat) ∉ ([13] : List Nat) by decide) f_b
          have fb_22 : f_20 b_p = .inl (cI, b_n, .inl b_c) := FR_at hF_20 s_b_p (show (1 : Nat) ∉ ([13] : List Nat) by decide) f_b_p
          have fb_23 : f_20 (g 14) = .inr (8, [.ref (g 11), .ref (g 31), .ref (g 32), .ref (g 33), .int cnt_1, .int nx_1, .int kd_1, .int vl_1, .int st_1, .int ls_1]) := FR_at hF_20 (gs_14 hG) (show (14 : Nat) ∉ ([13] : List Nat) by decide) fg_1
          have fb_24 : f_20 (g 23) = .inl (cR, 8, .inr (.inr (.inr (.inr c_11)))) := FR_at hF_20 (gs_23 hG) (show (23 : Nat) ∉ ([13] : List Nat) by decide) fg_11
          have fb_25 : f_20 r_12 = .inr (5, [.int (nI jn), .int (nI (2 * jn)), .ref p_12, .int len_13]) := FR_at hF_20 s_12 (show (0 : Nat) ∉ ([13] : List Nat) by decide) fg_13
          have fb_26 : f_20 p_12 = .inl (cI, n_12, .inl c_14) := FR_at hF_20 sp_13 (show (1 : Nat) ∉ ([13] : List Nat) by decide) fg_14
          have fb_27 : f_20 (g 12) = .inr (0, [.ref (g 20), .ref (g 21), .int tm_16, .int lk_16]) := FR_at hF_20 (gs_12 hG) (show (12 : Nat) ∉ ([13] : List Nat) by decide) fg_16
          exact g_zret (r_20, f_20) hx hb hr hlocks hS (b01 (by subst hj1; omega)) rfl (⟨hI, hF, show (r_20.toInt = 1 ∧ 0 < (E (vs i)).1 ∧ TKm cI g ks vs f_20 (i + 1) ∧ 2 * (b_l.toInt + (E (vs i)).1) ≤ (b_n : Int) ∧ RWf cI jn S f_20 b (b_l.toInt + (E (vs i)).1) (fun j => if j < 2 * b_l.toInt then w j else (E (vs i)).2 (j - 2 * b_l.toInt))) ∨ (r_20.toInt = 0 ∧ ((E (vs i)).1 ≤ 0 ∨ (b_n : Int) < 2 * (b_l.toInt + (E (vs i)).1))) from (Or.inr ⟨h0_20, Or.inl (hz9.elim (fun h9 => by have := h9.2; omega) (fun ⟨r9, h9, _⟩ => by cases h9))⟩), show FX S (fun a9 => a9 = b) [13, 14] f f_20 from (by first | assumption | omega | (subst hj1; omega)), show r_20.toInt = 0 ∨ r_20.toInt = 1 from (by first | assumption | omega | (subst hj1; omega))⟩) hP hD hQ (Nat.le_of_ble_eq_true rfl) (Nat.le_of_ble_eq_true rfl) dX4_readLetter_64
        · subst e_18
          refine W.eq (g2 := F0 m 53 ls [.ref r_18]) rfl ?_
          have hl : lv_has ls 4 [(2, .int vl_1), (0, .ref (g 13)), (1, .ref b)] := hl
          obtain ⟨p_28, n_28, m_28, s_28⟩ := ho_17 _ rfl
          refine lv_astore_n (lv' := [(3, .ref r_18), (2, .int vl_1), (0, .ref (g 13)), (1, .ref b)]) hx hb dX4_readLetter_53 rfl hl (by decide) rfl (fun ls hl => ?_)
          obtain ⟨len_29, fg_29, v1_29, v2_29, v3_29, mp_29, sp_29⟩ := op_0 hI m_28 s_28
          obtain ⟨w1_29, w2_29, w3_29, w4_29, w5_29⟩ := lenw hj v1_29 v2_29 v3_29
          obtain ⟨c_30, fg_30, iv0_30⟩ := op_1 hI mp_29 sp_29
          have hz9 := EnvC_b (w := some r_18) hEC (l := vs i) (by subst hj1; omega) (by subst hj1; omega) (hb_12 (by subst hj1; omega)) (fun c9 tm9 lk9 q1 q2 => he_17.elim (fun h9 => absurd (show 0 ≤ vl_1.toInt ∧ vl_1.toInt < 8 by omega) h9.1) (fun h9 => by rw [h9.2 c9 tm9 lk9 q1 q2, show vl_1.toInt = vs i by omega]))
          obtain ⟨r9, hr9, hn0, hr8, -⟩ := hz9.resolve_left (fun q9 => by cases q9.1)
          cases hr9
          obtain ⟨hn1, hn2⟩ := RWf_at hr8 s_28 fg_29 fg_30
          refine lv_aload_n hx hb dX4_readLetter_54 rfl (lv_at hl 0 rfl) ?_
          refine lv_ifnonnull (tgt := 65) hx hb dX4_readLetter_55 (by decide) ?_
          refine lv_aload_n hx hb dX4_readLetter_65 rfl (lv_at hl 2 rfl) ?_
          refine t_get (D := D) (L := L) (f := f) (ci := 4) (v := .ref (g 14)) (C := RX4) (T := TX4) (N := 11) hx hb hts (by decide +kernel) hown hK.1 hP (gm_13 hG) fg_3 rfl 1 (by decide) (hts (.fieldLink RX4 41 "JugglingHall$Reader" "tokens" "LJugglingHall$Tokens;") (by decide +kernel)) (fun _ h9 => h9) rfl dX4_readLetter_66 ?_
          refine call_p (va_runV (As := []) (rest := []) ⟨hx, hb, hml, hown, hts⟩ (t_X8_advancem l D cI cR cM _ (ks := ks) (vs := vs) (i := i)  hj hG hI  (by first | assumption | omega | (subst hj1; omega)) (hC)) (cwV 0 hts gX4_readLetter_X8_advance rfl rfl rfl (by decide +kernel) ⟨Nat.le_of_ble_eq_true rfl, Nat.le_of_ble_eq_true rfl⟩) (pre_T hK hP hD (gm_14 hG) fg_1 rfl) rfl rfl hl.1 rfl (lv_room (Nat.le_of_ble_eq_true rfl)) dX4_readLetter_69 ⟨Nat.le_of_ble_eq_true rfl, Nat.le_of_ble_eq_true rfl⟩) hD hS hA (fun u_31 H locs hw hP hD hS => ?_)
          obtain ⟨f_31, e0_31⟩ : ∃ x, x = u_31 := ⟨_, rfl⟩
          subst e0_31
          obtain ⟨hI, hF_31, hC_31, hfx_31⟩ : IN jn cI cR cM g L S f_31 ∧ FR S [14] f f_31 ∧ (TKm cI g ks vs f_31 ((i) + 1)) ∧ (FX S (fun _ => False) [14] f f_31) := hw
          have hP : va_P D vwCl (va_pl L f_31) H := hP
          have hD : va_D A (va_pl L f_31) := hD
          have hF := FR_tr hF hF_31 (by decide)
          have hFX := FX_tr hFX hfx_31 (fun _ h9 => h9.elim) (by decide)
          have fb_32 : f_31 b = .inr (5, [.int (nI jn), .int (nI (2 * jn)), .ref b_p, .int b_l]) := FR_at hF_31 s_b (show (0 : Nat) ∉ ([14] : List Nat) by decide) f_b
          have fb_33 : f_31 b_p = .inl (cI, b_n, .inl b_c) := FR_at hF_31 s_b_p (show (1 : Nat) ∉ ([14] : List Nat) by decide) f_b_p
          have fb_34 : f_31 (g 13) = .inr (4, [.int (nI jn), .ref (g 14), .ref (g 12), .ref (g 22), .ref (g 34), .ref (g 23), .ref (g 24), .ref (g 25), .ref (g 26), .int fa_3, .int pl_3]) := FR_at hF_31 (gs_13 hG) (show (13 : Nat) ∉ ([14] : List Nat) by decide) fg_3
          have fb_35 : f_31 (g 23) = .inl (cR, 8, .inr (.inr (.inr (.inr c_11)))) := FR_at hF_31 (gs_23 hG) (show (23 : Nat) ∉ ([14] : List Nat) by decide) fg_11
          have fb_36 : f_31 r_12 = .inr (5, [.int (nI jn), .int (nI (2 * jn)), .ref p_12, .int len_13]) := FR_at hF_31 s_12 (show (0 : Nat) ∉ ([14] : List Nat) by decide) fg_13
          have fb_37 : f_31 p_12 = .inl (cI, n_12, .inl c_14) := FR_at hF_31 sp_13 (show (1 : Nat) ∉ ([14] : List Nat) by decide) fg_14
          have fb_38 : f_31 (g 12) = .inr (0, [.ref (g 20), .ref (g 21), .int tm_16, .int lk_16]) := FR_at hF_31 (gs_12 hG) (show (12 : Nat) ∉ ([14] : List Nat) by decide) fg_16
          have fb_39 : f_31 r_18 = .inr (5, [.int (nI jn), .int (nI (2 * jn)), .ref p_28, .int len_29]) := FR_at hF_31 s_28 (show (0 : Nat) ∉ ([14] : List Nat) by decide) fg_29
          have fb_40 : f_31 p_28 = .inl (cI, n_28, .inl c_30) := FR_at hF_31 sp_29 (show (1 : Nat) ∉ ([14] : List Nat) by decide) fg_30
          have hCm_31 : TKm cI g ks vs f_31 (i + 1) := hC_31
          refine lv_aload_n hx hb dX4_readLetter_72 rfl (lv_at hl 3 rfl) ?_
          refine lv_aload_n hx hb dX4_readLetter_73 rfl (lv_at hl 0 rfl) ?_
          refine lv_iconst (v := 0) hx hb dX4_readLetter_74 (by decide) ?_
          refine lv_aload_n hx hb dX4_readLetter_75 rfl (lv_at hl 0 rfl) ?_
          refine t_getN (D := D) (L := L) (f := f_31) (ci := 5) (v := .int len_29) (C := RX5) (T := TX5) (N := 4) (host := "JugglingHall") hx hb hts (by decide +kernel) hown hK.1 hP m_28 fb_39 rfl 3 (by decide) (hK.nw (.fieldLinkNest RX4 62 "JugglingHall$Row" "length" "I" "JugglingHall") (by decide +kernel) rfl) (fun _ h9 => h9) rfl dX4_readLetter_76 ?_
          have hz_41 : (0 : Int32).toInt = 0 := by decide
          refine call_p (va_runV (As := [.ref r_18, .int 0, .int len_29]) (rest := []) ⟨hx, hb, hml, hown, hts⟩ (t_X5_appendm l D cI cR cM _ (w := w) (v := (E (vs i)).2)  hj hG hI m_b s_b fb_32 fb_33 m_28 s_28 fb_39 fb_40 (by first | assumption | omega | (subst hj1; omega)) (by rw [show (0 : Int32).toInt = 0 from rfl]; omega) (hw) (by rw [hn1]; exact hn2)) (cwV 3 hts gX4_readLetter_X5_append rfl rfl rfl (by decide +kernel) ⟨Nat.le_of_ble_eq_true rfl, Nat.le_of_ble_eq_true rfl⟩) (pre_T hK hP hD m_b fb_32 rfl) rfl rfl hl.1 rfl (lv_room (Nat.le_of_ble_eq_true rfl)) dX4_readLetter_79 ⟨Nat.le_of_ble_eq_true rfl, Nat.le_of_ble_eq_true rfl⟩) hD hS hA (fun u_42 H locs hw hP hD hS => ?_)
          obtain ⟨r_42, f_42⟩ := u_42
          obtain ⟨hI, hF_42, hp_42, hfx_42, h01_42⟩ : IN jn cI cR cM g L S f_42 ∧ FR S [0, 1] f_31 f_42 ∧ ((r_42.toInt = 1 ∧ 2 * (b_l.toInt + (len_29.toInt - (0 : Int32).toInt)) ≤ (b_n : Int) ∧ RWf cI jn S f_42 b (b_l.toInt + (len_29.toInt - (0 : Int32).toInt)) (fun j => if j < 2 * b_l.toInt then w j else (E (vs i)).2 (2 * (0 : Int32).toInt + (j - 2 * b_l.toInt)))) ∨ (r_42.toInt = 0 ∧ (b_n : Int) < 2 * (b_l.toInt + (len_29.toInt - (0 : Int32).toInt)))) ∧ (FX S (fun a9 => a9 = b) [] f_31 f_42) ∧ (r_42.toInt = 0 ∨ r_42.toInt = 1) := hw
          have hP : va_P D vwCl (va_pl L f_42) H := hP
          have hD : va_D A (va_pl L f_42) := hD
          have hF := FR_tr hF hF_42 (by decide)
          have hFX := FX_tr hFX hfx_42 (fun _ h9 => h9) (by decide)
          have fb_43 : f_42 (g 13) = .inr (4, [.int (nI jn), .ref (g 14), .ref (g 12), .ref (g 22), .ref (g 34), .ref (g 23), .ref (g 24), .ref (g 25), .ref (g 26), .int fa_3, .int pl_3]) := FR_at hF_42 (gs_13 hG) (show (13 : Nat) ∉ ([0, 1] : List Nat) by decide) fb_34
          have fb_44 : f_42 (g 23) = .inl (cR, 8, .inr (.inr (.inr (.inr c_11)))) := FR_at hF_42 (gs_23 hG) (show (23 : Nat) ∉ ([0, 1] : List Nat) by decide) fb_35
          have fb_45 : f_42 (g 12) = .inr (0, [.ref (g 20), .ref (g 21), .int tm_16, .int lk_16]) := FR_at hF_42 (gs_12 hG) (show (12 : Nat) ∉ ([0, 1] : List Nat) by decide) fb_38
          refine a_if_ne (u := r_42.toInt) (tgt := 93) hx hb dX4_readLetter_82 (by decide) (rfl) (fun c_46 => ?_) (fun c_46 => ?_)
          · refine lv_iconst (v := 1) hx hb dX4_readLetter_93 (by decide) ?_
            refine lv_goto (tgt := 98) hx hb dX4_readLetter_94 (by decide) ?_
            have hz_47 : (1 : Int32).toInt = 1 := by decide
            exact g_zret ((1 : Int32), f_42) hx hb hr hlocks hS (by first | exact Or.inl rfl | exact Or.inr rfl) rfl (⟨hI, hF, show ((1 : Int32).toInt = 1 ∧ 0 < (E (vs i)).1 ∧ TKm cI g ks vs f_42 (i + 1) ∧ 2 * (b_l.toInt + (E (vs i)).1) ≤ (b_n : Int) ∧ RWf cI jn S f_42 b (b_l.toInt + (E (vs i)).1) (fun j => if j < 2 * b_l.toInt then w j else (E (vs i)).2 (j - 2 * b_l.toInt))) ∨ ((1 : Int32).toInt = 0 ∧ ((E (vs i)).1 ≤ 0 ∨ (b_n : Int) < 2 * (b_l.toInt + (E (vs i)).1))) from (by
              obtain ⟨-, h7, h8⟩ := hp_42.resolve_right (fun q7 => by have := q7.1; omega)
              rw [show (0 : Int32).toInt = 0 from rfl, hn1] at h7
              rw [show (0 : Int32).toInt = 0 from rfl, hn1, show b_l.toInt + ((E (vs i)).1 - 0) = b_l.toInt + (E (vs i)).1 by omega] at h8
              exact Or.inl ⟨rfl, hn0, TKm_fr hCm_31 hG hF_42 (by decide), by omega, RWf_c h8 (fun i9 j0 j1 => by exact ap_1 rfl)⟩), show FX S (fun a9 => a9 = b) [13, 14] f f_42 from (by first | assumption | omega | (subst hj1; omega)), show (1 : Int32).toInt = 0 ∨ (1 : Int32).toInt = 1 from (by first | assumption | omega | (subst hj1; omega))⟩) hP hD hQ (Nat.le_of_ble_eq_true rfl) (Nat.le_of_ble_eq_true rfl) dX4_readLetter_98
          · refine lv_aload_n hx hb dX4_readLetter_85 rfl (lv_at hl 2 rfl) ?_
            refine lv_iconst (v := 4) hx hb dX4_readLetter_86 (by decide) ?_
            have hz_48 : (4 : Int32).toInt = 4 := by decide
            refine call_p (va_runV (As := [.int 4]) (rest := []) ⟨hx, hb, hml, hown, hts⟩ (t_X4_failBehind l D cI cR cM _   hj hG hI  ) (cwV 1 hts gX4_readLetter_X4_failBehind rfl rfl rfl (by decide +kernel) ⟨Nat.le_of_ble_eq_true rfl, Nat.le_of_ble_eq_true rfl⟩) (pre_T hK hP hD (gm_13 hG) fb_43 rfl) rfl rfl hl.1 rfl (lv_room (Nat.le_of_ble_eq_true rfl)) dX4_readLetter_87 ⟨Nat.le_of_ble_eq_true rfl, Nat.le_of_ble_eq_true rfl⟩) hD hS hA (fun u_49 H locs hw hP hD hS => ?_)
            obtain ⟨r_49, f_49⟩ := u_49
            obtain ⟨hI, hF_49, h0_49, h01_49⟩ : IN jn cI cR cM g L S f_49 ∧ FR S [13] f_42 f_49 ∧ (r_49.toInt = 0) ∧ (r_49.toInt = 0 ∨ r_49.toInt = 1) := hw
            have hP : va_P D vwCl (va_pl L f_49) H := hP
            have hD : va_D A (va_pl L f_49) := hD
            have hF := FR_tr hF hF_49 (by decide)
            have hFX := FX_trR hFX hF_49 (by decide) (by decide)
            have fb_50 : f_49 (g 23) = .inl (cR, 8, .inr (.inr (.inr (.inr c_11)))) := FR_at hF_49 (gs_23 hG) (show (23 : Nat) ∉ ([13] : List Nat) by decide) fb_44
            have fb_51 : f_49 (g 12) = .inr (0, [.ref (g 20), .ref (g 21), .int tm_16, .int lk_16]) := FR_at hF_49 (gs_12 hG) (show (12 : Nat) ∉ ([13] : List Nat) by decide) fb_45
            refine a_if_eq (u := r_49.toInt) (tgt := 97) hx hb dX4_readLetter_90 (by decide) (rfl) (fun c_52 => ?_) (fun c_52 => ?_)
            · refine lv_iconst (v := 0) hx hb dX4_readLetter_97 (by decide) ?_
              have hz_53 : (0 : Int32).toInt = 0 := by decide
              exact g_zret ((0 : Int32), f_49) hx hb hr hlocks hS (by first | exact Or.inl rfl | exact Or.inr rfl) rfl (⟨hI, hF, show ((0 : Int32).toInt = 1 ∧ 0 < (E (vs i)).1 ∧ TKm cI g ks vs f_49 (i + 1) ∧ 2 * (b_l.toInt + (E (vs i)).1) ≤ (b_n : Int) ∧ RWf cI jn S f_49 b (b_l.toInt + (E (vs i)).1) (fun j => if j < 2 * b_l.toInt then w j else (E (vs i)).2 (j - 2 * b_l.toInt))) ∨ ((0 : Int32).toInt = 0 ∧ ((E (vs i)).1 ≤ 0 ∨ (b_n : Int) < 2 * (b_l.toInt + (E (vs i)).1))) from (Or.inr ⟨rfl, Or.inr (by have h8 := (hp_42.resolve_left (fun q7 => by have := q7.1; omega)).2; rw [show (0 : Int32).toInt = 0 from rfl, hn1] at h8; omega)⟩), show FX S (fun a9 => a9 = b) [13, 14] f f_49 from (by first | assumption | omega | (subst hj1; omega)), show (0 : Int32).toInt = 0 ∨ (0 : Int32).toInt = 1 from (by first | assumption | omega | (subst hj1; omega))⟩) hP hD hQ (Nat.le_of_ble_eq_true rfl) (Nat.le_of_ble_eq_true rfl) dX4_readLetter_98
            · refine lv_iconst (v := 1) hx hb dX4_readLetter_93 (by decide) ?_
              refine lv_goto (tgt := 98) hx hb dX4_readLetter_94 (by decide) ?_
              have hz_54 : (1 : Int32).toInt = 1 := by decide
              exact g_zret ((1 : Int32), f_49) hx hb hr hlocks hS (by first | exact Or.inl rfl | exact Or.inr rfl) rfl (⟨hI, hF, show ((1 : Int32).toInt = 1 ∧ 0 < (E (vs i)).1 ∧ TKm cI g ks vs f_49 (i + 1) ∧ 2 * (b_l.toInt + (E (vs i)).1) ≤ (b_n : Int) ∧ RWf cI jn S f_49 b (b_l.toInt + (E (vs i)).1) (fun j => if j < 2 * b_l.toInt then w j else (E (vs i)).2 (j - 2 * b_l.toInt))) ∨ ((1 : Int32).toInt = 0 ∧ ((E (vs i)).1 ≤ 0 ∨ (b_n : Int) < 2 * (b_l.toInt + (E (vs i)).1))) from (by exfalso; omega), show FX S (fun a9 => a9 = b) [13, 14] f f_49 from (by first | assumption | omega | (subst hj1; omega)), show (1 : Int32).toInt = 0 ∨ (1 : Int32).toInt = 1 from (by first | assumption | omega | (subst hj1; omega))⟩) hP hD hQ (Nat.le_of_ble_eq_true rfl) (Nat.le_of_ble_eq_true rfl) dX4_readLetter_98
      · refine lv_aload_n hx hb dX4_readLetter_36 rfl (lv_at hl 1 rfl) ?_
        refine t_get (D := D) (L := L) (f := f) (ci := 4) (v := .ref (g 23)) (C := RX4) (T := TX4) (N := 11) hx hb hts (by decide +kernel) hown hK.1 hP (gm_13 hG) fg_3 rfl 5 (by decide) (hts (.fieldLink RX4 21 "JugglingHall$Reader" "here" "[LJugglingHall$Row;") (by decide +kernel)) (fun _ h9 => h9) rfl dX4_readLetter_37 ?_
        refine lv_iload_n hx hb dX4_readLetter_40 rfl (lv_at hl 0 rfl) ?_
        refine t_aald (L := L) (f := f) (y := c_11) (u := vl_1.toInt) hx hb hK.1 hP (gm_23 hG) 1 fg_11 rfl dX4_readLetter_41 (rfl) (by subst hj1; omega) (fun w_55 q_55 => ?_)
        obtain ⟨r_55, p_55, n_55, er_55, m_55, s_55⟩ := iv0_11 vl_1.toInt (by subst hj1; omega) (by subst hj1; omega)
        have q_55 := q_55.trans er_55
        subst q_55
        refine W.eq (g2 := F0 m 42 ls [.ref r_55]) rfl ?_
        have hh_55 : r_55 = gr (vs i).toNat := EnvC_h (l := vs i) hEC fg_11 (by subst hj1; omega) (by subst hj1; omega) (by rw [show vs i = vl_1.toInt by omega]; exact er_55)
        obtain ⟨len_56, fg_56, v1_56, v2_56, v3_56, mp_56, sp_56⟩ := op_0 hI m_55 s_55
        obtain ⟨w1_56, w2_56, w3_56, w4_56, w5_56⟩ := lenw hj v1_56 v2_56 v3_56
        obtain ⟨c_57, fg_57, iv0_57⟩ := op_1 hI mp_56 sp_56
        obtain ⟨ha_55, hb_55, hd_55⟩ := EnvC_1 hEC (l := vs i) (by subst hj1; omega) (by subst hj1; omega) hh_55 s_55 fg_56 fg_57
        refine lv_goto (tgt := 53) hx hb dX4_readLetter_42 (by decide) ?_
        refine lv_astore_n (lv' := [(3, .ref r_55), (2, .int vl_1), (0, .ref (g 13)), (1, .ref b)]) hx hb dX4_readLetter_53 rfl hl (by decide) rfl (fun ls hl => ?_)
        obtain ⟨hn0, hn1, hn2⟩ := hd_55 (ha_12 (by subst hj1; omega))
        refine lv_aload_n hx hb dX4_readLetter_54 rfl (lv_at hl 0 rfl) ?_
        refine lv_ifnonnull (tgt := 65) hx hb dX4_readLetter_55 (by decide) ?_
        refine lv_aload_n hx hb dX4_readLetter_65 rfl (lv_at hl 2 rfl) ?_
        refine t_get (D := D) (L := L) (f := f) (ci := 4) (v := .ref (g 14)) (C := RX4) (T := TX4) (N := 11) hx hb hts (by decide +kernel) hown hK.1 hP (gm_13 hG) fg_3 rfl 1 (by decide) (hts (.fieldLink RX4 41 "JugglingHall$Reader" "tokens" "LJugglingHall$Tokens;") (by decide +kernel)) (fun _ h9 => h9) rfl dX4_readLetter_66 ?_
        refine call_p (va_runV (As := []) (rest := []) ⟨hx, hb, hml, hown, hts⟩ (t_X8_advancem l D cI cR cM _ (ks := ks) (vs := vs) (i := i)  hj hG hI  (by first | assumption | omega | (subst hj1; omega)) (hC)) (cwV 0 hts gX4_readLetter_X8_advance rfl rfl rfl (by decide +kernel) ⟨Nat.le_of_ble_eq_true rfl, Nat.le_of_ble_eq_true rfl⟩) (pre_T hK hP hD (gm_14 hG) fg_1 rfl) rfl rfl hl.1 rfl (lv_room (Nat.le_of_ble_eq_true rfl)) dX4_readLetter_69 ⟨Nat.le_of_ble_eq_true rfl, Nat.le_of_ble_eq_true rfl⟩) hD hS hA (fun u_58 H locs hw hP hD hS => ?_)
        obtain ⟨f_58, e0_58⟩ : ∃ x, x = u_58 := ⟨_, rfl⟩
        subst e0_58
        obtain ⟨hI, hF_58, hC_58, hfx_58⟩ : IN jn cI cR cM g L S f_58 ∧ FR S [14] f f_58 ∧ (TKm cI g ks vs f_58 ((i) + 1)) ∧ (FX S (fun _ => False) [14] f f_58) := hw
        have hP : va_P D vwCl (va_pl L f_58) H := hP
        have hD : va_D A (va_pl L f_58) := hD
        have hF := FR_tr hF hF_58 (by decide)
        have hFX := FX_tr hFX hfx_58 (fun _ h9 => h9.elim) (by decide)
        have fb_59 : f_58 b = .inr (5, [.int (nI jn), .int (nI (2 * jn)), .ref b_p, .int b_l]) := FR_at hF_58 s_b (show (0 : Nat) ∉ ([14] : List Nat) by decide) f_b
        have fb_60 : f_58 b_p = .inl (cI, b_n, .inl b_c) := FR_at hF_58 s_b_p (show (1 : Nat) ∉ ([14] : List Nat) by decide) f_b_p
        have fb_61 : f_58 (g 13) = .inr (4, [.int (nI jn), .ref (g 14), .ref (g 12), .ref (g 22), .ref (g 34), .ref (g 23), .ref (g 24), .ref (g 25), .ref (g 26), .int fa_3, .int pl_3]) := FR_at hF_58 (gs_13 hG) (show (13 : Nat) ∉ ([14] : List Nat) by decide) fg_3
        have fb_62 : f_58 (g 23) = .inl (cR, 8, .inr (.inr (.inr (.inr c_11)))) := FR_at hF_58 (gs_23 hG) (show (23 : Nat) ∉ ([14] : List Nat) by decide) fg_11
        have fb_63 : f_58 r_12 = .inr (5, [.int (nI jn), .int (nI (2 * jn)), .ref p_12, .int len_13]) := FR_at hF_58 s_12 (show (0 : Nat) ∉ ([14] : List Nat) by decide) fg_13
        have fb_64 : f_58 p_12 = .inl (cI, n_12, .inl c_14) := FR_at hF_58 sp_13 (show (1 : Nat) ∉ ([14] : List Nat) by decide) fg_14
        have fb_65 : f_58 r_55 = .inr (5, [.int (nI jn), .int (nI (2 * jn)), .ref p_55, .int len_56]) := FR_at hF_58 s_55 (show (0 : Nat) ∉ ([14] : List Nat) by decide) fg_56
        have fb_66 : f_58 p_55 = .inl (cI, n_55, .inl c_57) := FR_at hF_58 sp_56 (show (1 : Nat) ∉ ([14] : List Nat) by decide) fg_57
        have hCm_58 : TKm cI g ks vs f_58 (i + 1) := hC_58
        refine lv_aload_n hx hb dX4_readLetter_72 rfl (lv_at hl 3 rfl) ?_
        refine lv_aload_n hx hb dX4_readLetter_73 rfl (lv_at hl 0 rfl) ?_
        refine lv_iconst (v := 0) hx hb dX4_readLetter_74 (by decide) ?_
        refine lv_aload_n hx hb dX4_readLetter_75 rfl (lv_at hl 0 rfl) ?_
        refine t_getN (D := D) (L := L) (f := f_58) (ci := 5) (v := .int len_56) (C := RX5) (T := TX5) (N := 4) (host := "JugglingHall") hx hb hts (by decide +kernel) hown hK.1 hP m_55 fb_65 rfl 3 (by decide) (hK.nw (.fieldLinkNest RX4 62 "JugglingHall$Row" "length" "I" "JugglingHall") (by decide +kernel) rfl) (fun _ h9 => h9) rfl dX4_readLetter_76 ?_
        have hz_67 : (0 : Int32).toInt = 0 := by decide
        refine call_p (va_runV (As := [.ref r_55, .int 0, .int len_56]) (rest := []) ⟨hx, hb, hml, hown, hts⟩ (t_X5_appendm l D cI cR cM _ (w := w) (v := (E (vs i)).2)  hj hG hI m_b s_b fb_59 fb_60 m_55 s_55 fb_65 fb_66 (by first | assumption | omega | (subst hj1; omega)) (by rw [show (0 : Int32).toInt = 0 from rfl]; omega) (hw) (by rw [hn1]; exact hn2)) (cwV 3 hts gX4_readLetter_X5_append rfl rfl rfl (by decide +kernel) ⟨Nat.le_of_ble_eq_true rfl, Nat.le_of_ble_eq_true rfl⟩) (pre_T hK hP hD m_b fb_59 rfl) rfl rfl hl.1 rfl (lv_room (Nat.le_of_ble_eq_true rfl)) dX4_readLetter_79 ⟨Nat.le_of_ble_eq_true rfl, Nat.le_of_ble_eq_true rfl⟩) hD hS hA (fun u_68 H locs hw hP hD hS => ?_)
        obtain ⟨r_68, f_68⟩ := u_68
        obtain ⟨hI, hF_68, hp_68, hfx_68, h01_68⟩ : IN jn cI cR cM g L S f_68 ∧ FR S [0, 1] f_58 f_68 ∧ ((r_68.toInt = 1 ∧ 2 * (b_l.toInt + (len_56.toInt - (0 : Int32).toInt)) ≤ (b_n : Int) ∧ RWf cI jn S f_68 b (b_l.toInt + (len_56.toInt - (0 : Int32).toInt)) (fun j => if j < 2 * b_l.toInt then w j else (E (vs i)).2 (2 * (0 : Int32).toInt + (j - 2 * b_l.toInt)))) ∨ (r_68.toInt = 0 ∧ (b_n : Int) < 2 * (b_l.toInt + (len_56.toInt - (0 : Int32).toInt)))) ∧ (FX S (fun a9 => a9 = b) [] f_58 f_68) ∧ (r_68.toInt = 0 ∨ r_68.toInt = 1) := hw
        have hP : va_P D vwCl (va_pl L f_68) H := hP
        have hD : va_D A (va_pl L f_68) := hD
        have hF := FR_tr hF hF_68 (by decide)
        have hFX := FX_tr hFX hfx_68 (fun _ h9 => h9) (by decide)
        have fb_69 : f_68 (g 13) = .inr (4, [.int (nI jn), .ref (g 14), .ref (g 12), .ref (g 22), .ref (g 34), .ref (g 23), .ref (g 24), .ref (g 25), .ref (g 26), .int fa_3, .int pl_3]) := FR_at hF_68 (gs_13 hG) (show (13 : Nat) ∉ ([0, 1] : List Nat) by decide) fb_61
        have fb_70 : f_68 (g 23) = .inl (cR, 8, .inr (.inr (.inr (.inr c_11)))) := FR_at hF_68 (gs_23 hG) (show (23 : Nat) ∉ ([0, 1] : List Nat) by decide) fb_62
        refine a_if_ne (u := r_68.toInt) (tgt := 93) hx hb dX4_readLetter_82 (by decide) (rfl) (fun c_71 => ?_) (fun c_71 => ?_)
        · refine lv_iconst (v := 1) hx hb dX4_readLetter_93 (by decide) ?_
          refine lv_goto (tgt := 98) hx hb dX4_readLetter_94 (by decide) ?_
          have hz_72 : (1 : Int32).toInt = 1 := by decide
          exact g_zret ((1 : Int32), f_68) hx hb hr hlocks hS (by first | exact Or.inl rfl | exact Or.inr rfl) rfl (⟨hI, hF, show ((1 : Int32).toInt = 1 ∧ 0 < (E (vs i)).1 ∧ TKm cI g ks vs f_68 (i + 1) ∧ 2 * (b_l.toInt + (E (vs i)).1) ≤ (b_n : Int) ∧ RWf cI jn S f_68 b (b_l.toInt + (E (vs i)).1) (fun j => if j < 2 * b_l.toInt then w j else (E (vs i)).2 (j - 2 * b_l.toInt))) ∨ ((1 : Int32).toInt = 0 ∧ ((E (vs i)).1 ≤ 0 ∨ (b_n : Int) < 2 * (b_l.toInt + (E (vs i)).1))) from (by
            obtain ⟨-, h7, h8⟩ := hp_68.resolve_right (fun q7 => by have := q7.1; omega)
            rw [show (0 : Int32).toInt = 0 from rfl, hn1] at h7
            rw [show (0 : Int32).toInt = 0 from rfl, hn1, show b_l.toInt + ((E (vs i)).1 - 0) = b_l.toInt + (E (vs i)).1 by omega] at h8
            exact Or.inl ⟨rfl, hn0, TKm_fr hCm_58 hG hF_68 (by decide), by omega, RWf_c h8 (fun i9 j0 j1 => by exact ap_1 rfl)⟩), show FX S (fun a9 => a9 = b) [13, 14] f f_68 from (by first | assumption | omega | (subst hj1; omega)), show (1 : Int32).toInt = 0 ∨ (1 : Int32).toInt = 1 from (by first | assumption | omega | (subst hj1; omega))⟩) hP hD hQ (Nat.le_of_ble_eq_true rfl) (Nat.le_of_ble_eq_true rfl) dX4_readLetter_98
        · refine lv_aload_n hx hb dX4_readLetter_85 rfl (lv_at hl 2 rfl) ?_
          refine lv_iconst (v := 4) hx hb dX4_readLetter_86 (by decide) ?_
          have hz_73 : (4 : Int32).toInt = 4 := by decide
          refine call_p (va_runV (As := [.int 4]) (rest := []) ⟨hx, hb, hml, hown, hts⟩ (t_X4_failBehind l D cI cR cM _   hj hG hI  ) (cwV 1 hts gX4_readLetter_X4_failBehind rfl rfl rfl (by decide +kernel) ⟨Nat.le_of_ble_eq_true rfl, Nat.le_of_ble_eq_true rfl⟩) (pre_T hK hP hD (gm_13 hG) fb_69 rfl) rfl rfl hl.1 rfl (lv_room (Nat.le_of_ble_eq_true rfl)) dX4_readLetter_87 ⟨Nat.le_of_ble_eq_true rfl, Nat.le_of_ble_eq_true rfl⟩) hD hS hA (fun u_74 H locs hw hP hD hS => ?_)
          obtain ⟨r_74, f_74⟩ := u_74
          obtain ⟨hI, hF_74, h0_74, h01_74⟩ : IN jn cI cR cM g L S f_74 ∧ FR S [13] f_68 f_74 ∧ (r_74.toInt = 0) ∧ (r_74.toInt = 0 ∨ r_74.toInt = 1) := hw
          have hP : va_P D vwCl (va_pl L f_74) H := hP
          have hD : va_D A (va_pl L f_74) := hD
          have hF := FR_tr hF hF_74 (by decide)
          have hFX := FX_trR hFX hF_74 (by decide) (by decide)
          have fb_75 : f_74 (g 23) = .inl (cR, 8, .inr (.inr (.inr (.inr c_11)))) := FR_at hF_74 (gs_23 hG) (show (23 : Nat) ∉ ([13] : List Nat) by decide) fb_70
          refine a_if_eq (u := r_74.toInt) (tgt := 97) hx hb dX4_readLetter_90 (by decide) (rfl) (fun c_76 => ?_) (fun c_76 => ?_)
          · refine lv_iconst (v := 0) hx hb dX4_readLetter_97 (by decide) ?_
            have hz_77 : (0 : Int32).toInt = 0 := by decide
            exact g_zret ((0 : Int32), f_74) hx hb hr hlocks hS (by first | exact Or.inl rfl | exact Or.inr rfl) rfl (⟨hI, hF, show ((0 : Int32).toInt = 1 ∧ 0 < (E (vs i)).1 ∧ TKm cI g ks vs f_74 (i + 1) ∧ 2 * (b_l.toInt + (E (vs i)).1) ≤ (b_n : Int) ∧ RWf cI jn S f_74 b (b_l.toInt + (E (vs i)).1) (fun j => if j < 2 * b_l.toInt then w j else (E (vs i)).2 (j - 2 * b_l.toInt))) ∨ ((0 : Int32).toInt = 0 ∧ ((E (vs i)).1 ≤ 0 ∨ (b_n : Int) < 2 * (b_l.toInt + (E (vs i)).1))) from (Or.inr ⟨rfl, Or.inr (by have h8 := (hp_68.resolve_left (fun q7 => by have := q7.1; omega)).2; rw [show (0 : Int32).toInt = 0 from rfl, hn1] at h8; omega)⟩), show FX S (fun a9 => a9 = b) [13, 14] f f_74 from (by first | assumption | omega | (subst hj1; omega)), show (0 : Int32).toInt = 0 ∨ (0 : Int32).toInt = 1 from (by first | assumption | omega | (subst hj1; omega))⟩) hP hD hQ (Nat.le_of_ble_eq_true rfl) (Nat.le_of_ble_eq_true rfl) dX4_readLetter_98
          · refine lv_iconst (v := 1) hx hb dX4_readLetter_93 (by decide) ?_
            refine lv_goto (tgt := 98) hx hb dX4_readLetter_94 (by decide) ?_
            have hz_78 : (1 : Int32).toInt = 1 := by decide
            exact g_zret ((1 : Int32), f_74) hx hb hr hlocks hS (by first | exact Or.inl rfl | exact Or.inr rfl) rfl (⟨hI, hF, show ((1 : Int32).toInt = 1 ∧ 0 < (E (vs i)).1 ∧ TKm cI g ks vs f_74 (i + 1) ∧ 2 * (b_l.toInt + (E (vs i)).1) ≤ (b_n : Int) ∧ RWf cI jn S f_74 b (b_l.toInt + (E (vs i)).1) (fun j => if j < 2 * b_l.toInt then w j else (E (vs i)).2 (j - 2 * b_l.toInt))) ∨ ((1 : Int32).toInt = 0 ∧ ((E (vs i)).1 ≤ 0 ∨ (b_n : Int) < 2 * (b_l.toInt + (E (vs i)).1))) from (by exfalso; omega), show FX S (fun a9 => a9 = b) [13, 14] f f_74 from (by first | assumption | omega | (subst hj1; omega)), show (1 : Int32).toInt = 0 ∨ (1 : Int32).toInt = 1 from (by first | assumption | omega | (subst hj1; omega))⟩) hP hD hQ (Nat.le_of_ble_eq_true rfl) (Nat.le_of_ble_eq_true rfl) dX4_readLetter_98
    · refine lv_aload_n hx hb dX4_readLetter_18 rfl (lv_at hl 1 rfl) ?_
      refine lv_iconst (v := 1) hx hb dX4_readLetter_19 (by decide) ?_
      have hz_79 : (1 : Int32).toInt = 1 := by decide
      refine call_p (va_runV (As := [.int 1]) (rest := []) ⟨hx, hb, hml, hown, hts⟩ (t_X4_fail l D cI cR cM _   hj hG hI  ) (cwV 1 hts gX4_readLetter_X4_fail rfl rfl rfl (by decide +kernel) ⟨Nat.le_of_ble_eq_true rfl, Nat.le_of_ble_eq_true rfl⟩) (pre_T hK hP hD (gm_13 hG) fg_3 rfl) rfl rfl hl.1 rfl (lv_room (Nat.le_of_ble_eq_true rfl)) dX4_readLetter_20 ⟨Nat.le_of_ble_eq_true rfl, Nat.le_of_ble_eq_true rfl⟩) hD hS hA (fun u_80 H locs hw hP hD hS => ?_)
      obtain ⟨r_80, f_80⟩ := u_80
      obtain ⟨hI, hF_80, h0_80, h01_80⟩ : IN jn cI cR cM g L S f_80 ∧ FR S [13] f f_80 ∧ (r_80.toInt = 0) ∧ (r_80.toInt = 0 ∨ r_80.toInt = 1) := hw
      have hP : va_P D vwCl (va_pl L f_80) H := hP
      have hD : va_D A (va_pl L f_80) := hD
      have hF := FR_tr hF hF_80 (by decide)
      have hFX := FX_trR hFX hF_80 (by decide) (by decide)
      have fb_81 : f_80 b = .inr (5, [.int (nI jn), .int (nI (2 * jn)), .ref b_p, .int b_l]) := FR_at hF_80 s_b (show (0 : Nat) ∉ ([13] : List Nat) by decide) f_b
      have fb_82 : f_80 b_p = .inl (cI, b_n, .inl b_c) := FR_at hF_80 s_b_p (show (1 : Nat) ∉ ([13] : List Nat) by decide) f_b_p
      have fb_83 : f_80 (g 14) = .inr (8, [.ref (g 11), .ref (g 31), .ref (g 32), .ref (g 33), .int cnt_1, .int nx_1, .int kd_1, .int vl_1, .int st_1, .int ls_1]) := FR_at hF_80 (gs_14 hG) (show (14 : Nat) ∉ ([13] : List Nat) by decide) fg_1
      exact g_zret (r_80, f_80) hx hb hr hlocks hS (b01 (by subst hj1; omega)) rfl (⟨hI, hF, show (r_80.toInt = 1 ∧ 0 < (E (vs i)).1 ∧ TKm cI g ks vs f_80 (i + 1) ∧ 2 * (b_l.toInt + (E (vs i)).1) ≤ (b_n : Int) ∧ RWf cI jn S f_80 b (b_l.toInt + (E (vs i)).1) (fun j => if j < 2 * b_l.toInt then w j else (E (vs i)).2 (j - 2 * b_l.toInt))) ∨ (r_80.toInt = 0 ∧ ((E (vs i)).1 ≤ 0 ∨ (b_n : Int) < 2 * (b_l.toInt + (E (vs i)).1))) from (by exfalso; omega), show FX S (fun a9 => a9 = b) [13, 14] f f_80 from (by first | assumption | omega | (subst hj1; omega)), show r_80.toInt = 0 ∨ r_80.toInt = 1 from (by first | assumption | omega | (subst hj1; omega))⟩) hP hD hQ (Nat.le_of_ble_eq_true rfl) (Nat.le_of_ble_eq_true rfl) dX4_readLetter_23
