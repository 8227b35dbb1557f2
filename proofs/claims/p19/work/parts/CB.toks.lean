/-- the first n tokens are kept -/
def TKp (cI : ClassId) (g : Nat → Nat) (ks vs : Nat → Int) (f : Nat → va_E) (n : Int) : Prop := ∃ (cnt nx kd vl st ls : Int32) (ck cv : Nat → Int32), f (g 14) = .inr (8, [.ref (g 11), .ref (g 31), .ref (g 32), .ref (g 33), .int cnt, .int nx, .int kd, .int vl, .int st, .int ls]) ∧ f (g 31) = .inl (cI, 301, .inl ck) ∧ f (g 32) = .inl (cI, 301, .inl cv) ∧ cnt.toInt = n ∧ (∀ j : Nat, (j : Int) < n → (ck j).toInt = cK (ks j) ∧ (ks j = 1 ∨ ks j = 2 → (cv j).toInt = vs j))
def TKz (cI : ClassId) (g : Nat → Nat) (ks vs : Nat → Int) (f : Nat → va_E) (n : Int) : Prop := ∃ (cnt nx kd vl st ls : Int32) (ck cv : Nat → Int32), f (g 14) = .inr (8, [.ref (g 11), .ref (g 31), .ref (g 32), .ref (g 33), .int cnt, .int nx, .int kd, .int vl, .int st, .int ls]) ∧ f (g 31) = .inl (cI, 301, .inl ck) ∧ f (g 32) = .inl (cI, 301, .inl cv) ∧ cnt.toInt = n ∧ (∀ j : Nat, (j : Int) < n → (ck j).toInt = cK (ks j) ∧ (ks j = 1 ∨ ks j = 2 → (cv j).toInt = vs j)) ∧ nx.toInt = 0
theorem TKp_at {cI : ClassId} {g : Nat → Nat} {ks vs : Nat → Int} {f : Nat → va_E} {n : Int} {cnt nx kd vl st ls : Int32} {ck cv : Nat → Int32} (h : TKp cI g ks vs f n) (h1 : f (g 14) = .inr (8, [.ref (g 11), .ref (g 31), .ref (g 32), .ref (g 33), .int cnt, .int nx, .int kd, .int vl, .int st, .int ls])) (h2 : f (g 31) = .inl (cI, 301, .inl ck)) (h3 : f (g 32) = .inl (cI, 301, .inl cv)) : cnt.toInt = n ∧ (∀ j : Nat, (j : Int) < n → (ck j).toInt = cK (ks j) ∧ (ks j = 1 ∨ ks j = 2 → (cv j).toInt = vs j)) := by
  obtain ⟨a1, a2, a3, a4, a5, a6, b1, b2, q1, q2, q3, q4⟩ := h
  rw [h1] at q1
  rw [h2] at q2
  rw [h3] at q3
  cases q1
  cases q2
  cases q3
  exact q4
theorem TKz_at {cI : ClassId} {g : Nat → Nat} {ks vs : Nat → Int} {f : Nat → va_E} {n : Int} {cnt nx kd vl st ls : Int32} {ck cv : Nat → Int32} (h : TKz cI g ks vs f n) (h1 : f (g 14) = .inr (8, [.ref (g 11), .ref (g 31), .ref (g 32), .ref (g 33), .int cnt, .int nx, .int kd, .int vl, .int st, .int ls])) (h2 : f (g 31) = .inl (cI, 301, .inl ck)) (h3 : f (g 32) = .inl (cI, 301, .inl cv)) : (cnt.toInt = n ∧ (∀ j : Nat, (j : Int) < n → (ck j).toInt = cK (ks j) ∧ (ks j = 1 ∨ ks j = 2 → (cv j).toInt = vs j))) ∧ nx.toInt = 0 := by
  obtain ⟨a1, a2, a3, a4, a5, a6, b1, b2, q1, q2, q3, q4, q5, q6⟩ := h
  rw [h1] at q1
  rw [h2] at q2
  rw [h3] at q3
  cases q1
  cases q2
  cases q3
  exact ⟨⟨q4, q5⟩, q6⟩
theorem kp_s {ks vs : Nat → Int} {ck cv ck2 cv2 : Nat → Int32} {n : Int} {x y : Int32} (h : ∀ j : Nat, (j : Int) < n → (ck j).toInt = cK (ks j) ∧ (ks j = 1 ∨ ks j = 2 → (cv j).toInt = vs j)) (h0 : 0 ≤ n) (e1 : ck2 = upd ck n.toNat x) (e2 : cv2 = upd cv n.toNat y) (hx : x.toInt = cK (ks n.toNat)) (hy : ks n.toNat = 1 ∨ ks n.toNat = 2 → y.toInt = vs n.toNat) : ∀ j : Nat, (j : Int) < n + 1 → (ck2 j).toInt = cK (ks j) ∧ (ks j = 1 ∨ ks j = 2 → (cv2 j).toInt = vs j) := by
  intro j hj
  by_cases e : j = n.toNat
  · rw [e, e1, e2, pk_us, pk_us]; exact ⟨hx, hy⟩
  · rw [e1, e2, pk_un e, pk_un e]; exact h j (by omega)
theorem tk_fin {ks vs : Nat → Int} {cnt kd2 vl2 nx2 : Int32} {ck cv : Nat → Int32} {n : Nat} (h : cnt.toInt = (n : Int) + 1 ∧ (∀ j : Nat, (j : Int) < (n : Int) + 1 → (ck j).toInt = cK (ks j) ∧ (ks j = 1 ∨ ks j = 2 → (cv j).toInt = vs j))) (hn : n ≤ 300) (hz : ∀ j : Nat, n ≤ j → ks j = 0) (e1 : kd2 = ck (0 : Int).toNat) (e2 : vl2 = cv (0 : Int).toNat) (e3 : nx2.toInt = 1) : (1 ≤ cnt.toInt ∧ cnt.toInt ≤ 301) ∧ kd2.toInt = cK (ks 0) ∧ (ks 0 = 1 ∨ ks 0 = 2 → vl2.toInt = vs 0) ∧ (((0 : Nat) : Int) + 1 ≤ cnt.toInt → nx2.toInt = ((0 : Nat) : Int) + 1) ∧ (cnt.toInt ≤ ((0 : Nat) : Int) + 1 → nx2.toInt = cnt.toInt) ∧ (∀ j : Nat, (j : Int) < cnt.toInt → (ck j).toInt = cK (ks j) ∧ (ks j = 1 ∨ ks j = 2 → (cv j).toInt = vs j)) ∧ (∀ j : Nat, cnt.toInt ≤ (j : Int) + 1 → ks j = 0) := by
  obtain ⟨h1, h2⟩ := h
  have t := h2 0 (by omega)
  refine ⟨by omega, by rw [e1]; exact t.1, fun q => by rw [e2]; exact t.2 q, fun _ => by omega, fun q => by omega, fun j hj => h2 j (by omega), fun j hj => hz j (by omega)⟩
theorem SM_at {B : Int → Int} {P ks vs : Nat → Int} {n : Nat} {k v q e : Int} (h : SM B P ks vs) (ht : TkR B (P n) k v q e) : ks n = k ∧ P (n + 1) = e ∧ (ks n = 1 ∨ ks n = 2 → vs n = v) := by
  obtain ⟨q9, h9⟩ := h.2 n
  obtain ⟨u1, u2, u3, u4⟩ := TkR_u h9 ht
  exact ⟨u3, u2, u4⟩
theorem SM_end {c : Nat → Int32} {n : Int} {P ks vs : Nat → Int} {m : Nat} (h : SM (sE c n) P ks vs) (h0 : 0 ≤ n) (hp : P m ≤ n) (hb : ∀ j : Int, P m ≤ j → j < n → sE c n j = 32 ∨ sE c n j = 10) : ∀ j : Nat, m ≤ j → ks j = 0 := by
  have e1 : sE c n n = -1 := sE_out (Int.le_refl _)
  have t0 : TkR (sE c n) (P m) 0 0 n n := ⟨hp, hb, by rw [e1]; decide, Or.inl ⟨by rw [e1]; decide, rfl, rfl⟩⟩
  have key : ∀ d : Nat, ks (m + d) = 0 ∧ P (m + d + 1) = n := by
    intro d
    induction d with
    | zero => exact ⟨(SM_at h t0).1, (SM_at h t0).2.1⟩
    | succ d ih =>
      have t1 : TkR (sE c n) (P (m + d + 1)) 0 0 n n := ⟨by rw [ih.2]; exact Int.le_refl _, fun j j0 j1 => by rw [ih.2] at j0; omega, by rw [e1]; decide, Or.inl ⟨by rw [e1]; decide, rfl, rfl⟩⟩
      exact ⟨(SM_at h t1).1, (SM_at h t1).2.1⟩
  intro j hj
  have := (key (j - m)).1
  rw [show m + (j - m) = j by omega] at this
  exact this
theorem tk_word {c : Nat → Int32} {n : Int} {P ks vs : Nat → Int} {m : Nat} {a e k : Int} (h : SM (sE c n) P ks vs) (hp : P m ≤ a) (hb : ∀ j : Int, P m ≤ j → j < a → sE c n j = 32 ∨ sE c n j = 10) (hl : ∀ j : Int, a ≤ j → j < e → isLt (sE c n j)) (he : ¬ isLt (sE c n e)) (hae : a < e) (hw : WKd (sE c n) a e k) : ks m = k ∧ P (m + 1) = e ∧ (ks m = 1 ∨ ks m = 2 → vs m = sE c n a - 65) := by
  have la := hl a (Int.le_refl _) hae
  refine SM_at h ⟨hp, hb, ?_, Or.inr (Or.inr (Or.inl ⟨la, hae, hl, he, hw, rfl⟩))⟩
  unfold isLt at la
  omega
theorem tk_sign {c : Nat → Int32} {n : Int} {P ks vs : Nat → Int} {m : Nat} {a r : Int} (h : SM (sE c n) P ks vs) (hp : P m ≤ a) (hb : ∀ j : Int, P m ≤ j → j < a → sE c n j = 32 ∨ sE c n j = 10) (h0 : 0 ≤ sE c n a) (hl : ¬ isLt (sE c n a)) (hn : ¬ (sE c n a = 32 ∨ sE c n a = 10)) (hk : (48 ≤ sE c n a ∧ sE c n a ≤ 57 ∧ r = 2) ∨ (¬ (48 ≤ sE c n a ∧ sE c n a ≤ 57) ∧ isSg (sE c n a) ∧ r = sE c n a) ∨ (¬ (48 ≤ sE c n a ∧ sE c n a ≤ 57) ∧ ¬ isSg (sE c n a) ∧ r = 1)) : r = cK (ks m) ∧ P (m + 1) = a + 1 ∧ (ks m = 1 ∨ ks m = 2 → vs m = sE c n a - 48) := by
  rcases hk with ⟨k1, k2, k3⟩ | ⟨k1, k2, k3⟩ | ⟨k1, k2, k3⟩
  · have t := SM_at (k := 1) (v := sE c n a - 48) (q := a) (e := a + 1) h ⟨hp, hb, hn, Or.inr (Or.inl ⟨k1, k2, rfl, rfl, rfl⟩)⟩
    exact ⟨by rw [t.1, k3]; rfl, t.2.1, t.2.2⟩
  · have t := SM_at (k := sE c n a) (v := 0) (q := a) (e := a + 1) h ⟨hp, hb, hn, Or.inr (Or.inr (Or.inr ⟨h0, k1, hl, rfl, Or.inl ⟨k2, rfl⟩⟩))⟩
    have hs := k2
    unfold isSg at hs
    refine ⟨?_, t.2.1, fun q => by rw [t.1] at q; omega⟩
    have := cK_f (k := sE c n a) (Or.inr ⟨by omega, by omega⟩)
    rw [t.1, k3]
    omega
  · have t := SM_at (k := 3) (v := 0) (q := a) (e := a + 1) h ⟨hp, hb, hn, Or.inr (Or.inr (Or.inr ⟨h0, k1, hl, rfl, Or.inr ⟨k2, rfl⟩⟩))⟩
    refine ⟨by rw [t.1, k3]; rfl, t.2.1, fun q => by rw [t.1] at q; omega⟩
set_option maxRecDepth 100000 in
set_option maxHeartbeats 4000000 in
theorem t_X8_wordKindm (l : Launch) (D : va_G) (cI cR cM : ClassId) (sz : Nat) {jn : Nat} {g : Nat → Nat} {L : List Nat} {S : Sg} {f : Nat → va_E} {x y : Int32} {adK adV : Nat → Nat} {B0 : Nat} {cb : Nat → Int32} {n9 : Int} (hj : 1 ≤ jn ∧ jn ≤ 3) (hG : SG g L S) (hI : IN jn cI cR cM g L S f) (hB : ∀ a, a ∈ L → B0 ≤ a) (hj1 : jn = 1) (hx0 : 0 ≤ x.toInt ∧ x.toInt ≤ 1000 ∧ 0 ≤ y.toInt ∧ y.toInt ≤ 1000 ∧ x.toInt < y.toInt) (hTp : TpC cI g f cb n9) : Met l yX8_wordKind wsX8_wordKind ({ frames := 5, cells := 0, slots := 0, locals := 109 }) (P0S D cI cR cM [.ref (g 14), .int x, .int y] sz (va_pl L f) adK adV B0) (QP (fun r => (∃ k9 : Int, WKd (sE cb n9) x.toInt y.toInt k9 ∧ r.toInt = cK k9)) sz) 0 0 (va_A [] sz) := by
  refine goS (cc := cX8_wordKind) (maxL := 4) (ret := (some .int)) (by decide +kernel) rfl (Nat.le_of_ble_eq_true rfl) ?_
  intro p e s m below meth c ls args Q hQ hsz hx hb hr hml hts hown hlocks hnm hP hK hD hl hST
  subst hsz
  have hS : va_S (va_A [] s.heap.size) s.heap s.heap [] := va_S.rf
  have hA : ∀ q, s.heap.size ≤ q → va_A [] s.heap.size q := fun q h => Or.inr h
  have hAB : ∀ q, va_A [] s.heap.size q → B0 ≤ q := fun q h => by
    rcases h with ⟨k, e9, h⟩ | h
    · simp at h
    · exact Nat.le_trans hST.1 h
  have hV := hST.2.1.narrow hAB
  have hZ9 := hST.2.2.2.1.narrow hAB
  have hQ9 := hST.2.2.2.2.narrow hAB
  have hl : lv_has ls 4 [(0, .ref (g 14)), (1, .int x), (2, .int y)] := hl
  refine lv_aload_n hx hb dX8_wordKind_0 rfl (lv_at hl 0 rfl) ?_
  obtain ⟨cnt_1, nx_1, kd_1, vl_1, st_1, ls_1, fg_1, iv0_1, iv1_1, iv2_1⟩ := op_14 hI (gm_14 hG) (gs_14 hG)
  refine t_get (D := D) (L := L) (f := f) (ci := 8) (v := .ref (g 11)) (C := RX8) (T := TX8) (N := 10) hx hb hts (by decide +kernel) hown hK.1 hP (gm_14 hG) fg_1 rfl 0 (by decide) (hts (.fieldLink RX8 21 "JugglingHall$Tokens" "tape" "LJugglingHall$Tape;") (by decide +kernel)) (fun _ h9 => h9) rfl dX8_wordKind_1 ?_
  refine lv_iload_n hx hb dX8_wordKind_4 rfl (lv_at hl 1 rfl) ?_
  obtain ⟨len_2, fg_2, iv0_2, iv1_2⟩ := op_11 hI (gm_11 hG) (gs_11 hG)
  refine roP (va_runV (As := [.int x]) (rest := []) ⟨hx, hb, hml, hown, hts⟩ (t_X7_byteAtm l D cI cR cM _ (cb := cb) (n9 := n9)  hj hG hI  (by first | assumption | omega | (subst hj1; omega)) (by first | assumption | omega | (subst hj1; omega))) (cwV 1 hts gX8_wordKind_X7_byteAt rfl rfl rfl (by decide +kernel) ⟨Nat.le_of_ble_eq_true rfl, Nat.le_of_ble_eq_true rfl⟩) (pre_T hK hP hD (gm_11 hG) fg_2 rfl) rfl rfl hl.1 rfl (lv_room (Nat.le_of_ble_eq_true rfl)) dX8_wordKind_5 ⟨Nat.le_of_ble_eq_true rfl, Nat.le_of_ble_eq_true rfl⟩) hS hA hP (fun r_3 H locs hw hP hS => ?_)
  obtain ⟨h_3, he_3⟩ : (-1 ≤ r_3.toInt ∧ r_3.toInt ≤ 255) ∧ (r_3.toInt = sE cb n9 x.toInt) := hw
  have hs9 := he_3
  refine lv_istore_n (lv' := [(3, .int r_3), (0, .ref (g 14)), (1, .int x), (2, .int y)]) hx hb dX8_wordKind_8 rfl hl (by decide) rfl (fun ls hl => ?_)
  have join4 : ∀  (H : Heap) (locs : List Loc) (ls : Array Slot), (¬ (y.toInt - x.toInt = 1 ∧ 65 ≤ sE cb n9 x.toInt ∧ sE cb n9 x.toInt ≤ 72)) → va_P D vwCl (va_pl L f) H → va_S (va_A [] s.heap.size) s.heap H locs → lv_has ls 4 [(0, .ref (g 14)), (1, .int x), (2, .int y), (3, .int r_3)] → W p l e ({ frames := 5, cells := 0, slots := 0, locals := 109 }) s m args below meth c H locs (0) (0) Q (F0 m 30 ls []) := by
    intro  H locs ls hn1 hP hS hl
    refine lv_aload_n hx hb dX8_wordKind_30 rfl (lv_at hl 0 rfl) ?_
    refine va_ldcS hx hb hown (show vk_R RX8 78 "row" (adK 0) s from hST.2.2.1 0 (by decide)) dX8_wordKind_31 ?_
    refine lv_iload_n hx hb dX8_wordKind_33 rfl (lv_at hl 1 rfl) ?_
    refine lv_iload_n hx hb dX8_wordKind_34 rfl (lv_at hl 2 rfl) ?_
    refine roP (va_runV (As := [.ref (adK 0), .int x, .int y]) (rest := []) ⟨hx, hb, hml, hown, hts⟩ (t_X8_spellsm l D cI cR cM _ (cb := cb) (n9 := n9) (i := 0) hj hG hI hB  (by first | assumption | omega | (subst hj1; omega)) (by decide) (by first | assumption | omega | (subst hj1; omega)) (hTp)) (cwV 3 hts gX8_wordKind_X8_spells rfl rfl rfl (by decide +kernel) ⟨Nat.le_of_ble_eq_true rfl, Nat.le_of_ble_eq_true rfl⟩) (pre_TS hK hST hS hAB hP hD (gm_14 hG) fg_1 rfl) rfl rfl hl.1 rfl (lv_room (Nat.le_of_ble_eq_true rfl)) dX8_wordKind_35 ⟨Nat.le_of_ble_eq_true rfl, Nat.le_of_ble_eq_true rfl⟩) hS hA hP (fun r_5 H locs hw hP hS => ?_)
    obtain ⟨hp_5, h01_5⟩ : (Hd ((r_5.toInt = 1 ∧ SpW (sE cb n9) 0 x.toInt y.toInt) ∨ (r_5.toInt = 0 ∧ ¬ SpW (sE cb n9) 0 x.toInt y.toInt))) ∧ (r_5.toInt = 0 ∨ r_5.toInt = 1) := hw
    refine a_if_eq (u := r_5.toInt) (tgt := 43) hx hb dX8_wordKind_38 (by decide) (rfl) (fun c_6 => ?_) (fun c_6 => ?_)
    · refine lv_aload_n hx hb dX8_wordKind_43 rfl (lv_at hl 0 rfl) ?_
      refine va_ldcS hx hb hown (show vk_R RX8 84 "seen" (adK 1) s from hST.2.2.1 1 (by decide)) dX8_wordKind_44 ?_
      refine lv_iload_n hx hb dX8_wordKind_46 rfl (lv_at hl 1 rfl) ?_
      refine lv_iload_n hx hb dX8_wordKind_47 rfl (lv_at hl 2 rfl) ?_
      refine roP (va_runV (As := [.ref (adK 1), .int x, .int y]) (rest := []) ⟨hx, hb, hml, hown, hts⟩ (t_X8_spellsm l D cI cR cM _ (cb := cb) (n9 := n9) (i := 1) hj hG hI hB  (by first | assumption | omega | (subst hj1; omega)) (by decide) (by first | assumption | omega | (subst hj1; omega)) (hTp)) (cwV 3 hts gX8_wordKind_X8_spells rfl rfl rfl (by decide +kernel) ⟨Nat.le_of_ble_eq_true rfl, Nat.le_of_ble_eq_true rfl⟩) (pre_TS hK hST hS hAB hP hD (gm_14 hG) fg_1 rfl) rfl rfl hl.1 rfl (lv_room (Nat.le_of_ble_eq_true rfl)) dX8_wordKind_48 ⟨Nat.le_of_ble_eq_true rfl, Nat.le_of_ble_eq_true rfl⟩) hS hA hP (fun r_7 H locs hw hP hS => ?_)
      obtain ⟨hp_7, h01_7⟩ : (Hd ((r_7.toInt = 1 ∧ SpW (sE cb n9) 1 x.toInt y.toInt) ∨ (r_7.toInt = 0 ∧ ¬ SpW (sE cb n9) 1 x.toInt y.toInt))) ∧ (r_7.toInt = 0 ∨ r_7.toInt = 1) := hw
      refine a_if_eq (u := r_7.toInt) (tgt := 56) hx hb dX8_wordKind_51 (by decide) (rfl) (fun c_8 => ?_) (fun c_8 => ?_)
      · refine lv_aload_n hx hb dX8_wordKind_56 rfl (lv_at hl 0 rfl) ?_
        refine va_ldcS hx hb hown (show vk_R RX8 86 "back" (adK 2) s from hST.2.2.1 2 (by decide)) dX8_wordKind_57 ?_
        refine lv_iload_n hx hb dX8_wordKind_59 rfl (lv_at hl 1 rfl) ?_
        refine lv_iload_n hx hb dX8_wordKind_60 rfl (lv_at hl 2 rfl) ?_
        refine roP (va_runV (As := [.ref (adK 2), .int x, .int y]) (rest := []) ⟨hx, hb, hml, hown, hts⟩ (t_X8_spellsm l D cI cR cM _ (cb := cb) (n9 := n9) (i := 2) hj hG hI hB  (by first | assumption | omega | (subst hj1; omega)) (by decide) (by first | assumption | omega | (subst hj1; omega)) (hTp)) (cwV 3 hts gX8_wordKind_X8_spells rfl rfl rfl (by decide +kernel) ⟨Nat.le_of_ble_eq_true rfl, Nat.le_of_ble_eq_true rfl⟩) (pre_TS hK hST hS hAB hP hD (gm_14 hG) fg_1 rfl) rfl rfl hl.1 rfl (lv_room (Nat.le_of_ble_eq_true rfl)) dX8_wordKind_61 ⟨Nat.le_of_ble_eq_true rfl, Nat.le_of_ble_eq_true rfl⟩) hS hA hP (fun r_9 H locs hw hP hS => ?_)
        obtain ⟨hp_9, h01_9⟩ : (Hd ((r_9.toInt = 1 ∧ SpW (sE cb n9) 2 x.toInt y.toInt) ∨ (r_9.toInt = 0 ∧ ¬ SpW (sE cb n9) 2 x.toInt y.toInt))) ∧ (r_9.toInt = 0 ∨ r_9.toInt = 1) := hw
        refine a_if_eq (u := r_9.toInt) (tgt := 70) hx hb dX8_wordKind_64 (by decide) (rfl) (fun c_10 => ?_) (fun c_10 => ?_)
        · refine lv_aload_n hx hb dX8_wordKind_70 rfl (lv_at hl 0 rfl) ?_
          refine va_ldcS hx hb hown (show vk_R RX8 88 "over" (adK 3) s from hST.2.2.1 3 (by decide)) dX8_wordKind_71 ?_
          refine lv_iload_n hx hb dX8_wordKind_73 rfl (lv_at hl 1 rfl) ?_
          refine lv_iload_n hx hb dX8_wordKind_74 rfl (lv_at hl 2 rfl) ?_
          refine roP (va_runV (As := [.ref (adK 3), .int x, .int y]) (rest := []) ⟨hx, hb, hml, hown, hts⟩ (t_X8_spellsm l D cI cR cM _ (cb := cb) (n9 := n9) (i := 3) hj hG hI hB  (by first | assumption | omega | (subst hj1; omega)) (by decide) (by first | assumption | omega | (subst hj1; omega)) (hTp)) (cwV 3 hts gX8_wordKind_X8_spells rfl rfl rfl (by decide +kernel) ⟨Nat.le_of_ble_eq_true rfl, Nat.le_of_ble_eq_true rfl⟩) (pre_TS hK hST hS hAB hP hD (gm_14 hG) fg_1 rfl) rfl rfl hl.1 rfl (lv_room (Nat.le_of_ble_eq_true rfl)) dX8_wordKind_75 ⟨Nat.le_of_ble_eq_true rfl, Nat.le_of_ble_eq_true rfl⟩) hS hA hP (fun r_11 H locs hw hP hS => ?_)
          obtain ⟨hp_11, h01_11⟩ : (Hd ((r_11.toInt = 1 ∧ SpW (sE cb n9) 3 x.toInt y.toInt) ∨ (r_11.toInt = 0 ∧ ¬ SpW (sE cb n9) 3 x.toInt y.toInt))) ∧ (r_11.toInt = 0 ∨ r_11.toInt = 1) := hw
          refine a_if_eq (u := r_11.toInt) (tgt := 84) hx hb dX8_wordKind_78 (by decide) (rfl) (fun c_12 => ?_) (fun c_12 => ?_)
          · refine lv_aload_n hx hb dX8_wordKind_84 rfl (lv_at hl 0 rfl) ?_
            refine va_ldcS hx hb hown (show vk_R RX8 90 "dual" (adK 4) s from hST.2.2.1 4 (by decide)) dX8_wordKind_85 ?_
            refine lv_iload_n hx hb dX8_wordKind_87 rfl (lv_at hl 1 rfl) ?_
            refine lv_iload_n hx hb dX8_wordKind_88 rfl (lv_at hl 2 rfl) ?_
            refine roP (va_runV (As := [.ref (adK 4), .int x, .int y]) (rest := []) ⟨hx, hb, hml, hown, hts⟩ (t_X8_spellsm l D cI cR cM _ (cb := cb) (n9 := n9) (i := 4) hj hG hI hB  (by first | assumption | omega | (subst hj1; omega)) (by decide) (by first | assumption | omega | (subst hj1; omega)) (hTp)) (cwV 3 hts gX8_wordKind_X8_spells rfl rfl rfl (by decide +kernel) ⟨Nat.le_of_ble_eq_true rfl, Nat.le_of_ble_eq_true rfl⟩) (pre_TS hK hST hS hAB hP hD (gm_14 hG) fg_1 rfl) rfl rfl hl.1 rfl (lv_room (Nat.le_of_ble_eq_true rfl)) dX8_wordKind_89 ⟨Nat.le_of_ble_eq_true rfl, Nat.le_of_ble_eq_true rfl⟩) hS hA hP (fun r_13 H locs hw hP hS => ?_)
            obtain ⟨hp_13, h01_13⟩ : (Hd ((r_13.toInt = 1 ∧ SpW (sE cb n9) 4 x.toInt y.toInt) ∨ (r_13.toInt = 0 ∧ ¬ SpW (sE cb n9) 4 x.toInt y.toInt))) ∧ (r_13.toInt = 0 ∨ r_13.toInt = 1) := hw
            refine a_if_eq (u := r_13.toInt) (tgt := 98) hx hb dX8_wordKind_92 (by decide) (rfl) (fun c_14 => ?_) (fun c_14 => ?_)
            · refine lv_aload_n hx hb dX8_wordKind_98 rfl (lv_at hl 0 rfl) ?_
              refine va_ldcS hx hb hown (show vk_R RX8 92 "turn" (adK 5) s from hST.2.2.1 5 (by decide)) dX8_wordKind_99 ?_
              refine lv_iload_n hx hb dX8_wordKind_101 rfl (lv_at hl 1 rfl) ?_
              refine lv_iload_n hx hb dX8_wordKind_102 rfl (lv_at hl 2 rfl) ?_
              refine roP (va_runV (As := [.ref (adK 5), .int x, .int y]) (rest := []) ⟨hx, hb, hml, hown, hts⟩ (t_X8_spellsm l D cI cR cM _ (cb := cb) (n9 := n9) (i := 5) hj hG hI hB  (by first | assumption | omega | (subst hj1; omega)) (by decide) (by first | assumption | omega | (subst hj1; omega)) (hTp)) (cwV 3 hts gX8_wordKind_X8_spells rfl rfl rfl (by decide +kernel) ⟨Nat.le_of_ble_eq_true rfl, Nat.le_of_ble_eq_true rfl⟩) (pre_TS hK hST hS hAB hP hD (gm_14 hG) fg_1 rfl) rfl rfl hl.1 rfl (lv_room (Nat.le_of_ble_eq_true rfl)) dX8_wordKind_103 ⟨Nat.le_of_ble_eq_true rfl, Nat.le_of_ble_eq_true rfl⟩) hS hA hP (fun r_15 H locs hw hP hS => ?_)
              obtain ⟨hp_15, h01_15⟩ : (Hd ((r_15.toInt = 1 ∧ SpW (sE cb n9) 5 x.toInt y.toInt) ∨ (r_15.toInt = 0 ∧ ¬ SpW (sE cb n9) 5 x.toInt y.toInt))) ∧ (r_15.toInt = 0 ∨ r_15.toInt = 1) := hw
              refine a_if_eq (u := r_15.toInt) (tgt := 112) hx hb dX8_wordKind_106 (by decide) (rfl) (fun c_16 => ?_) (fun c_16 => ?_)
              · refine lv_aload_n hx hb dX8_wordKind_112 rfl (lv_at hl 0 rfl) ?_
                refine va_ldcS hx hb hown (show vk_R RX8 94 "p" (adK 6) s from hST.2.2.1 6 (by decide)) dX8_wordKind_113 ?_
                refine lv_iload_n hx hb dX8_wordKind_115 rfl (lv_at hl 1 rfl) ?_
                refine lv_iload_n hx hb dX8_wordKind_116 rfl (lv_at hl 2 rfl) ?_
                refine roP (va_runV (As := [.ref (adK 6), .int x, .int y]) (rest := []) ⟨hx, hb, hml, hown, hts⟩ (t_X8_spellsm l D cI cR cM _ (cb := cb) (n9 := n9) (i := 6) hj hG hI hB  (by first | assumption | omega | (subst hj1; omega)) (by decide) (by first | assumption | omega | (subst hj1; omega)) (hTp)) (cwV 3 hts gX8_wordKind_X8_spells rfl rfl rfl (by decide +kernel) ⟨Nat.le_of_ble_eq_true rfl, Nat.le_of_ble_eq_true rfl⟩) (pre_TS hK hST hS hAB hP hD (gm_14 hG) fg_1 rfl) rfl rfl hl.1 rfl (lv_room (Nat.le_of_ble_eq_true rfl)) dX8_wordKind_117 ⟨Nat.le_of_ble_eq_true rfl, Nat.le_of_ble_eq_true rfl⟩) hS hA hP (fun r_17 H locs hw hP hS => ?_)
                obtain ⟨hp_17, h01_17⟩ : (Hd ((r_17.toInt = 1 ∧ SpW (sE cb n9) 6 x.toInt y.toInt) ∨ (r_17.toInt = 0 ∧ ¬ SpW (sE cb n9) 6 x.toInt y.toInt))) ∧ (r_17.toInt = 0 ∨ r_17.toInt = 1) := hw
                refine a_if_eq (u := r_17.toInt) (tgt := 128) hx hb dX8_wordKind_120 (by decide) (rfl) (fun c_18 => ?_) (fun c_18 => ?_)
                · refine lv_iconst (v := 1) hx hb dX8_wordKind_128 (by decide) ?_
                  have hz_19 : (1 : Int32).toInt = 1 := by decide
                  exact rp_iret hx hb hr hlocks hS (show ∃ k9 : Int, WKd (sE cb n9) x.toInt y.toInt k9 ∧ (1 : Int32).toInt = cK k9 from (by
                    have e7 : y.toInt - x.toInt = 1 → ¬ (65 ≤ sE cb n9 x.toInt ∧ sE cb n9 x.toInt ≤ 72) := fun e9 q9 => hn1 ⟨e9, q9.1, q9.2⟩
                    have n0 := fun h => (hp_5.resolve_left (fun q9 => by have := q9.1; omega)).2 (spw_0.mpr h)
                    have n1 := fun h => (hp_7.resolve_left (fun q9 => by have := q9.1; omega)).2 (spw_1.mpr h)
                    have n2 := fun h => (hp_9.resolve_left (fun q9 => by have := q9.1; omega)).2 (spw_2.mpr h)
                    have n3 := fun h => (hp_11.resolve_left (fun q9 => by have := q9.1; omega)).2 (spw_3.mpr h)
                    have n4 := fun h => (hp_13.resolve_left (fun q9 => by have := q9.1; omega)).2 (spw_4.mpr h)
                    have n5 := fun h => (hp_15.resolve_left (fun q9 => by have := q9.1; omega)).2 (spw_5.mpr h)
                    have n6 := fun h => (hp_17.resolve_left (fun q9 => by have := q9.1; omega)).2 (spw_6.mpr h)
                    by_cases e9 : y.toInt - x.toInt = 1
                    · exact ⟨3, Or.inl ⟨e9, Or.inr (Or.inr ⟨e7 e9, fun q9 => n6 ⟨e9, q9⟩, rfl⟩)⟩, by decide⟩
                    · exact ⟨3, Or.inr (Or.inr (Or.inr (Or.inr (Or.inr (Or.inr (Or.inr (⟨e9, n0, n1, n2, n3, n4, n5, rfl⟩))))))), by decide⟩)) hQ dX8_wordKind_129
                · refine lv_bipush (v := 10) hx hb dX8_wordKind_123 (by decide) ?_
                  refine lv_goto (tgt := 129) hx hb dX8_wordKind_125 (by decide) ?_
                  have hz_20 : (10 : Int32).toInt = 10 := by decide
                  exact rp_iret hx hb hr hlocks hS (show ∃ k9 : Int, WKd (sE cb n9) x.toInt y.toInt k9 ∧ (10 : Int32).toInt = cK k9 from (by
                    have h9 := spw_6.mp (hp_17.resolve_right (fun q9 => by have := q9.1; omega)).2
                    exact ⟨4, Or.inl ⟨h9.1, Or.inr (Or.inl ⟨h9.2, rfl⟩)⟩, by decide⟩)) hQ dX8_wordKind_129
              · refine lv_bipush (v := 9) hx hb dX8_wordKind_109 (by decide) ?_
                have hz_21 : (9 : Int32).toInt = 9 := by decide
                exact rp_iret hx hb hr hlocks hS (show ∃ k9 : Int, WKd (sE cb n9) x.toInt y.toInt k9 ∧ (9 : Int32).toInt = cK k9 from (by
                  have h9 := spw_5.mp (hp_15.resolve_right (fun q9 => by have := q9.1; omega)).2
                  exact ⟨10, Or.inr (Or.inr (Or.inr (Or.inr (Or.inr (Or.inr (Or.inl ⟨h9.1, h9.2.1, h9.2.2.1, h9.2.2.2.1, h9.2.2.2.2, rfl⟩)))))), by decide⟩)) hQ dX8_wordKind_111
            · refine lv_bipush (v := 8) hx hb dX8_wordKind_95 (by decide) ?_
              have hz_22 : (8 : Int32).toInt = 8 := by decide
              exact rp_iret hx hb hr hlocks hS (show ∃ k9 : Int, WKd (sE cb n9) x.toInt y.toInt k9 ∧ (8 : Int32).toInt = cK k9 from (by
                have h9 := spw_4.mp (hp_13.resolve_right (fun q9 => by have := q9.1; omega)).2
                exact ⟨9, Or.inr (Or.inr (Or.inr (Or.inr (Or.inr (Or.inl ⟨h9.1, h9.2.1, h9.2.2.1, h9.2.2.2.1, h9.2.2.2.2, rfl⟩))))), by decide⟩)) hQ dX8_wordKind_97
          · refine lv_bipush (v := 7) hx hb dX8_wordKind_81 (by decide) ?_
            have hz_23 : (7 : Int32).toInt = 7 := by decide
            exact rp_iret hx hb hr hlocks hS (show ∃ k9 : Int, WKd (sE cb n9) x.toInt y.toInt k9 ∧ (7 : Int32).toInt = cK k9 from (by
              have h9 := spw_3.mp (hp_11.resolve_right (fun q9 => by have := q9.1; omega)).2
              exact ⟨8, Or.inr (Or.inr (Or.inr (Or.inr (Or.inl ⟨h9.1, h9.2.1, h9.2.2.1, h9.2.2.2.1, h9.2.2.2.2, rfl⟩)))), by decide⟩)) hQ dX8_wordKind_83
        · refine lv_bipush (v := 6) hx hb dX8_wordKind_67 (by decide) ?_
          have hz_24 : (6 : Int32).toInt = 6 := by decide
          exact rp_iret hx hb hr hlocks hS (show ∃ k9 : Int, WKd (sE cb n9) x.toInt y.toInt k9 ∧ (6 : Int32).toInt = cK k9 from (by
            have h9 := spw_2.mp (hp_9.resolve_right (fun q9 => by have := q9.1; omega)).2
            exact ⟨7, Or.inr (Or.inr (Or.inr (Or.inl ⟨h9.1, h9.2.1, h9.2.2.1, h9.2.2.2.1, h9.2.2.2.2, rfl⟩))), by decide⟩)) hQ dX8_wordKind_69
      · refine lv_iconst (v := 5) hx hb dX8_wordKind_54 (by decide) ?_
        have hz_25 : (5 : Int32).toInt = 5 := by decide
        exact rp_iret hx hb hr hlocks hS (show ∃ k9 : Int, WKd (sE cb n9) x.toInt y.toInt k9 ∧ (5 : Int32).toInt = cK k9 from (by
          have h9 := spw_1.mp (hp_7.resolve_right (fun q9 => by have := q9.1; omega)).2
          exact ⟨6, Or.inr (Or.inr (Or.inl ⟨h9.1, h9.2.1, h9.2.2.1, h9.2.2.2.1, h9.2.2.2.2, rfl⟩)), by decide⟩)) hQ dX8_wordKind_55
    · refine lv_iconst (v := 4) hx hb dX8_wordKind_41 (by decide) ?_
      have hz_26 : (4 : Int32).toInt = 4 := by decide
      exact rp_iret hx hb hr hlocks hS (show ∃ k9 : Int, WKd (sE cb n9) x.toInt y.toInt k9 ∧ (4 : Int32).toInt = cK k9 from (by
        have h9 := spw_0.mp (hp_5.resolve_right (fun q9 => by have := q9.1; omega)).2
        exact ⟨5, Or.inr (Or.inl ⟨h9.1, h9.2.1, h9.2.2.1, h9.2.2.2, rfl⟩), by decide⟩)) hQ dX8_wordKind_42
  refine lv_iload_n hx hb dX8_wordKind_9 rfl (lv_at hl 3 rfl) ?_
  refine lv_iload_n hx hb dX8_wordKind_10 rfl (lv_at hl 2 rfl) ?_
  refine a_isub (u := y.toInt) (v := x.toInt) hx hb dX8_wordKind_11 (rfl) (rfl) (by subst hj1; omega) (fun z_27 e_27 => ?_)
  refine lv_iconst (v := 1) hx hb dX8_wordKind_12 (by decide) ?_
  refine a_icmp_ne (u := (y.toInt - x.toInt)) (v := 1) (tgt := 30) hx hb dX8_wordKind_13 (by decide) (e_27) (by decide) (fun c_28 => ?_) (fun c_28 => ?_)
  · exact join4  _ _ _ (by first | assumption | omega | (subst hj1; omega)) hP hS (lv_sub hl [1, 2, 3, 0] rfl)
  · refine lv_iload_n hx hb dX8_wordKind_16 rfl (lv_at hl 0 rfl) ?_
    refine lv_bipush (v := 65) hx hb dX8_wordKind_17 (by decide) ?_
    refine a_icmp_lt (u := r_3.toInt) (v := 65) (tgt := 30) hx hb dX8_wordKind_19 (by decide) (rfl) (by decide) (fun c_29 => ?_) (fun c_29 => ?_)
    · exact join4  _ _ _ (by first | assumption | omega | (subst hj1; omega)) hP hS (lv_sub hl [1, 2, 3, 0] rfl)
    · refine lv_iload_n hx hb dX8_wordKind_22 rfl (lv_at hl 0 rfl) ?_
      refine lv_bipush (v := 73) hx hb dX8_wordKind_23 (by decide) ?_
      refine a_icmp_ge (u := r_3.toInt) (v := 73) (tgt := 30) hx hb dX8_wordKind_25 (by decide) (rfl) (by decide) (fun c_30 => ?_) (fun c_30 => ?_)
      · exact join4  _ _ _ (by first | assumption | omega | (subst hj1; omega)) hP hS (lv_sub hl [1, 2, 3, 0] rfl)
      · refine lv_iconst (v := 3) hx hb dX8_wordKind_28 (by decide) ?_
        have hz_31 : (3 : Int32).toInt = 3 := by decide
        exact rp_iret hx hb hr hlocks hS (show ∃ k9 : Int, WKd (sE cb n9) x.toInt y.toInt k9 ∧ (3 : Int32).toInt = cK k9 from (⟨2, Or.inl ⟨by omega, Or.inl ⟨by omega, by omega, rfl⟩⟩, by decide⟩)) hQ dX8_wordKind_29
set_option maxRecDepth 100000 in
set_option maxHeartbeats 4000000 in
theorem t_X8_keepm (l : Launch) (D : va_G) (cI cR cM : ClassId) (sz : Nat) {jn : Nat} {g : Nat → Nat} {L : List Nat} {S : Sg} {f : Nat → va_E} {x y v : Int32} {ks vs : Nat → Int} {n0 : Int} (hj : 1 ≤ jn ∧ jn ≤ 3) (hG : SG g L S) (hI : IN jn cI cR cM g L S f) (hj1 : jn = 1) (hAr : TKp cI g ks vs f n0) (hn0 : 0 ≤ n0 ∧ n0 ≤ 300) (hx9 : x.toInt = cK (ks n0.toNat)) (hy9 : ks n0.toNat = 1 ∨ ks n0.toNat = 2 → y.toInt = vs n0.toNat) : Met l yX8_keep wsX8_keep ({ frames := 0, cells := 0, slots := 0, locals := 0 }) (P0 D cI cR cM [.ref (g 14), .int x, .int y, .int v] sz (va_pl L f)) (QG (S := Nat → va_E) (fun u => none) (fun u => va_pl L u) (fun u => IN jn cI cR cM g L S u ∧ FR S [14, 31, 32, 33] f u ∧ (TKp cI g ks vs u (n0 + 1)) ∧ (FX S (fun _ => False) [14, 31, 32, 33] f u)) D (va_A (va_pl L f) sz)) 0 0 (va_A (va_pl L f) sz) := by
  refine go (cc := cX8_keep) (maxL := 4) (ret := none) (by decide +kernel) rfl (Nat.le_of_ble_eq_true rfl) ?_
  intro p e s m below meth c ls args Q hQ hsz hx hb hr hml hts hown hlocks hnm hP hK hD hl
  subst hsz
  have hD := hD.self (sz := s.heap.size)
  generalize hAe : va_A (va_pl L f) s.heap.size = A at hD hQ
  have hA : ∀ q, s.heap.size ≤ q → A q := fun q h => by rw [← hAe]; exact Or.inr h
  have hS : va_S A s.heap s.heap [] := va_S.rf
  have hFX : FX S (fun _ => False) [14, 31, 32, 33] f f := FX_rf
  have hF : FR S [14, 31, 32, 33] f f := FR_rf
  have hl : lv_has ls 4 [(0, .ref (g 14)), (1, .int x), (2, .int y), (3, .int v)] := hl
  obtain ⟨cnt_1, nx_1, kd_1, vl_1, st_1, ls_1, fg_1, iv0_1, iv1_1, iv2_1⟩ := op_14 hI (gm_14 hG) (gs_14 hG)
  obtain ⟨c_2, fg_2⟩ := op_31 hI (gm_31 hG) (gs_31 hG)
  obtain ⟨c_3, fg_3⟩ := op_32 hI (gm_32 hG) (gs_32 hG)
  obtain ⟨hq1, hq2⟩ := TKp_at hAr fg_1 fg_2 fg_3
  refine lv_aload_n hx hb dX8_keep_0 rfl (lv_at hl 0 rfl) ?_
  refine t_get (D := D) (L := L) (f := f) (ci := 8) (v := .int cnt_1) (C := RX8) (T := TX8) (N := 10) hx hb hts (by decide +kernel) hown hK.1 hP (gm_14 hG) fg_1 rfl 4 (by decide) (hts (.fieldLink RX8 25 "JugglingHall$Tokens" "count" "I") (by decide +kernel)) (fun _ h9 => h9) rfl dX8_keep_1 ?_
  refine lv_aload_n hx hb dX8_keep_4 rfl (lv_at hl 0 rfl) ?_
  refine t_get (D := D) (L := L) (f := f) (ci := 8) (v := .ref (g 31)) (C := RX8) (T := TX8) (N := 10) hx hb hts (by decide +kernel) hown hK.1 hP (gm_14 hG) fg_1 rfl 1 (by decide) (hts (.fieldLink RX8 9 "JugglingHall$Tokens" "kinds" "[I") (by decide +kernel)) (fun _ h9 => h9) rfl dX8_keep_5 ?_
  refine t_alen (L := L) (f := f) (v := 301) hx hb hK.1 hP (gm_31 hG) 0 fg_2 rfl rfl dX8_keep_8 ?_
  refine a_icmp_ge (u := cnt_1.toInt) (v := 301) (tgt := 52) hx hb dX8_keep_9 (by decide) (rfl) (by decide) (fun c_4 => ?_) (fun c_4 => ?_)
  · exact g_vret f hx hb hr hlocks hS rfl (⟨hI, hF, show TKp cI g ks vs f (n0 + 1) from (by exfalso; omega), show FX S (fun _ => False) [14, 31, 32, 33] f f from (by first | assumption | omega | (subst hj1; omega))⟩) hP hD hQ (Nat.le_of_ble_eq_true rfl) (Nat.le_of_ble_eq_true rfl) dX8_keep_52
  · refine lv_aload_n hx hb dX8_keep_12 rfl (lv_at hl 0 rfl) ?_
    refine t_get (D := D) (L := L) (f := f) (ci := 8) (v := .ref (g 31)) (C := RX8) (T := TX8) (N := 10) hx hb hts (by decide +kernel) hown hK.1 hP (gm_14 hG) fg_1 rfl 1 (by decide) (hts (.fieldLink RX8 9 "JugglingHall$Tokens" "kinds" "[I") (by decide +kernel)) (fun _ h9 => h9) rfl dX8_keep_13 ?_
    refine lv_aload_n hx hb dX8_keep_16 rfl (lv_at hl 0 rfl) ?_
    refine t_get (D := D) (L := L) (f := f) (ci := 8) (v := .int cnt_1) (C := RX8) (T := TX8) (N := 10) hx hb hts (by decide +kernel) hown hK.1 hP (gm_14 hG) fg_1 rfl 4 (by decide) (hts (.fieldLink RX8 25 "JugglingHall$Tokens" "count" "I") (by decide +kernel)) (fun _ h9 => h9) rfl dX8_keep_17 ?_
    refine lv_iload_n hx hb dX8_keep_20 rfl (lv_at hl 1 rfl) ?_
    refine t_iast (L := L) (f := f) (h := c_2) (u := cnt_1.toInt) hx hb hK.1 hP hD hS (gm_31 hG) 0 fg_2 rfl dX8_keep_21 (rfl) (by subst hj1; omega) (fun g_5 f_5 H locs eg_5 e9_5 o_5 hP hD hS => ?_)
    have fa_5 : f_5 (g 31) = .inl (cI, 301, .inl g_5) := e9_5
    have hI := IN_set (e := .inl (cI, 301, .inl g_5)) hI (gs_31 hG) (mk_31) fa_5 o_5
    have hF := FR_set hF (gs_31 hG) (show (31 : Nat) ∈ ([14, 31, 32, 33] : List Nat) by decide) o_5
    have hFX := FX_setT hFX (gs_31 hG) (show (31 : Nat) ∈ ([14, 31, 32, 33] : List Nat) by decide) o_5
    have fb_6 : f_5 (g 14) = .inr (8, [.ref (g 11), .ref (g 31), .ref (g 32), .ref (g 33), .int cnt_1, .int nx_1, .int kd_1, .int vl_1, .int st_1, .int ls_1]) := f_at o_5 (S_ne (gs_14 hG) (gs_31 hG) (show (14 : Nat) ≠ 31 by decide)) fg_1
    have fb_7 : f_5 (g 32) = .inl (cI, 301, .inl c_3) := f_at o_5 (S_ne (gs_32 hG) (gs_31 hG) (show (32 : Nat) ≠ 31 by decide)) fg_3
    refine lv_aload_n hx hb dX8_keep_22 rfl (lv_at hl 0 rfl) ?_
    refine t_get (D := D) (L := L) (f := f_5) (ci := 8) (v := .ref (g 32)) (C := RX8) (T := TX8) (N := 10) hx hb hts (by decide +kernel) hown hK.1 hP (gm_14 hG) fb_6 rfl 2 (by decide) (hts (.fieldLink RX8 15 "JugglingHall$Tokens" "values" "[I") (by decide +kernel)) (fun _ h9 => h9) rfl dX8_keep_23 ?_
    refine lv_aload_n hx hb dX8_keep_26 rfl (lv_at hl 0 rfl) ?_
    refine t_get (D := D) (L := L) (f := f_5) (ci := 8) (v := .int cnt_1) (C := RX8) (T := TX8) (N := 10) hx hb hts (by decide +kernel) hown hK.1 hP (gm_14 hG) fb_6 rfl 4 (by decide) (hts (.fieldLink RX8 25 "JugglingHall$Tokens" "count" "I") (by decide +kernel)) (fun _ h9 => h9) rfl dX8_keep_27 ?_
    refine lv_iload_n hx hb dX8_keep_30 rfl (lv_at hl 2 rfl) ?_
    refine t_iast (L := L) (f := f_5) (h := c_3) (u := cnt_1.toInt) hx hb hK.1 hP hD hS (gm_32 hG) 0 fb_7 rfl dX8_keep_31 (rfl) (by subst hj1; omega) (fun g_8 f_8 H locs eg_8 e9_8 o_8 hP hD hS => ?_)
    have fa_8 : f_8 (g 32) = .inl (cI, 301, .inl g_8) := e9_8
    have hI := IN_set (e := .inl (cI, 301, .inl g_8)) hI (gs_32 hG) (mk_32) fa_8 o_8
    have hF := FR_set hF (gs_32 hG) (show (32 : Nat) ∈ ([14, 31, 32, 33] : List Nat) by decide) o_8
    have hFX := FX_setT hFX (gs_32 hG) (show (32 : Nat) ∈ ([14, 31, 32, 33] : List Nat) by decide) o_8
    have fb_9 : f_8 (g 14) = .inr (8, [.ref (g 11), .ref (g 31), .ref (g 32), .ref (g 33), .int cnt_1, .int nx_1, .int kd_1, .int vl_1, .int st_1, .int ls_1]) := f_at o_8 (S_ne (gs_14 hG) (gs_32 hG) (show (14 : Nat) ≠ 32 by decide)) fb_6
    have fb_10 : f_8 (g 31) = .inl (cI, 301, .inl g_5) := f_at o_8 (S_ne (gs_31 hG) (gs_32 hG) (show (31 : Nat) ≠ 32 by decide)) fa_5
    refine lv_aload_n hx hb dX8_keep_32 rfl (lv_at hl 0 rfl) ?_
    refine t_get (D := D) (L := L) (f := f_8) (ci := 8) (v := .ref (g 33)) (C := RX8) (T := TX8) (N := 10) hx hb hts (by decide +kernel) hown hK.1 hP (gm_14 hG) fb_9 rfl 3 (by decide) (hts (.fieldLink RX8 18 "JugglingHall$Tokens" "starts" "[I") (by decide +kernel)) (fun _ h9 => h9) rfl dX8_keep_33 ?_
    refine lv_aload_n hx hb dX8_keep_36 rfl (lv_at hl 0 rfl) ?_
    refine t_get (D := D) (L := L) (f := f_8) (ci := 8) (v := .int cnt_1) (C := RX8) (T := TX8) (N := 10) hx hb hts (by decide +kernel) hown hK.1 hP (gm_14 hG) fb_9 rfl 4 (by decide) (hts (.fieldLink RX8 25 "JugglingHall$Tokens" "count" "I") (by decide +kernel)) (fun _ h9 => h9) rfl dX8_keep_37 ?_
    refine lv_iload_n hx hb dX8_keep_40 rfl (lv_at hl 3 rfl) ?_
    obtain ⟨c_11, fg_11⟩ := op_33 hI (gm_33 hG) (gs_33 hG)
    refine t_iast (L := L) (f := f_8) (h := c_11) (u := cnt_1.toInt) hx hb hK.1 hP hD hS (gm_33 hG) 0 fg_11 rfl dX8_keep_41 (rfl) (by subst hj1; omega) (fun g_12 f_12 H locs eg_12 e9_12 o_12 hP hD hS => ?_)
    have fa_12 : f_12 (g 33) = .inl (cI, 301, .inl g_12) := e9_12
    have hI := IN_set (e := .inl (cI, 301, .inl g_12)) hI (gs_33 hG) (mk_33) fa_12 o_12
    have hF := FR_set hF (gs_33 hG) (show (33 : Nat) ∈ ([14, 31, 32, 33] : List Nat) by decide) o_12
    have hFX := FX_setT hFX (gs_33 hG) (show (33 : Nat) ∈ ([14, 31, 32, 33] : List Nat) by decide) o_12
    have fb_13 : f_12 (g 14) = .inr (8, [.ref (g 11), .ref (g 31), .ref (g 32), .ref (g 33), .int cnt_1, .int nx_1, .int kd_1, .int vl_1, .int st_1, .int ls_1]) := f_at o_12 (S_ne (gs_14 hG) (gs_33 hG) (show (14 : Nat) ≠ 33 by decide)) fb_9
    have fb_14 : f_12 (g 31) = .inl (cI, 301, .inl g_5) := f_at o_12 (S_ne (gs_31 hG) (gs_33 hG) (show (31 : Nat) ≠ 33 by decide)) fb_10
    have fb_15 : f_12 (g 32) = .inl (cI, 301, .inl g_8) := f_at o_12 (S_ne (gs_32 hG) (gs_33 hG) (show (32 : Nat) ≠ 33 by decide)) fa_8
    refine lv_aload_n hx hb dX8_keep_42 rfl (lv_at hl 0 rfl) ?_
    refine lv_dup hx hb dX8_keep_43 rfl ?_
    refine t_get (D := D) (L := L) (f := f_12) (ci := 8) (v := .int cnt_1) (C := RX8) (T := TX8) (N := 10) hx hb hts (by decide +kernel) hown hK.1 hP (gm_14 hG) fb_13 rfl 4 (by decide) (hts (.fieldLink RX8 25 "JugglingHall$Tokens" "count" "I") (by decide +kernel)) (fun _ h9 => h9) rfl dX8_keep_44 ?_
    refine lv_iconst (v := 1) hx hb dX8_keep_47 (by decide) ?_
    refine a_iadd (u := cnt_1.toInt) (v := 1) hx hb dX8_keep_48 (rfl) (by decide) (by subst hj1; omega) (fun z_16 e_16 => ?_)
    refine t_put (D := D) (L := L) (f := f_12) (ci := 8) (v := .int z_16) (ty := .int) (C := RX8) (T := TX8) (N := 10) hx hb hts (by decide +kernel) tyX8 tyX8_ok nmX8 hown hK.1 hP hD hS (gm_14 hG) fb_13 rfl 4 (by decide) (hts (.fieldLink RX8 25 "JugglingHall$Tokens" "count" "I") (by decide +kernel)) (fun _ h9 => h9) rfl (by decide +kernel) rfl rfl (Nat.le_of_ble_eq_true rfl) dX8_keep_49 (fun f_17 H locs e9_17 o_17 hP hD hS => ?_)
    have fa_17 : f_17 (g 14) = .inr (8, [.ref (g 11), .ref (g 31), .ref (g 32), .ref (g 33), .int z_16, .int nx_1, .int kd_1, .int vl_1, .int st_1, .int ls_1]) := e9_17
    have hI := IN_set (e := .inr (8, [.ref (g 11), .ref (g 31), .ref (g 32), .ref (g 33), .int z_16, .int nx_1, .int kd_1, .int vl_1, .int st_1, .int ls_1])) hI (gs_14 hG) (mk_14 (by first | assumption | omega | (subst hj1; omega)) (by first | assumption | omega | (subst hj1; omega)) (by first | assumption | omega | (subst hj1; omega))) fa_17 o_17
    have hF := FR_set hF (gs_14 hG) (show (14 : Nat) ∈ ([14, 31, 32, 33] : List Nat) by decide) o_17
    have hFX := FX_setT hFX (gs_14 hG) (show (14 : Nat) ∈ ([14, 31, 32, 33] : List Nat) by decide) o_17
    have fb_18 : f_17 (g 31) = .inl (cI, 301, .inl g_5) := f_at o_17 (S_ne (gs_31 hG) (gs_14 hG) (show (31 : Nat) ≠ 14 by decide)) fb_14
    have fb_19 : f_17 (g 32) = .inl (cI, 301, .inl g_8) := f_at o_17 (S_ne (gs_32 hG) (gs_14 hG) (show (32 : Nat) ≠ 14 by decide)) fb_15
    have fb_20 : f_17 (g 33) = .inl (cI, 301, .inl g_12) := f_at o_17 (S_ne (gs_33 hG) (gs_14 hG) (show (33 : Nat) ≠ 14 by decide)) fa_12
    exact g_vret f_17 hx hb hr hlocks hS rfl (⟨hI, hF, show TKp cI g ks vs f_17 (n0 + 1) from (⟨_, _, _, _, _, _, _, _, fa_17, fb_18, fb_19, by omega, kp_s hq2 (by subst hj1; omega) (by rw [eg_5, hq1]) (by rw [eg_8, hq1]) hx9 hy9⟩), show FX S (fun _ => False) [14, 31, 32, 33] f f_17 from (by first | assumption | omega | (subst hj1; omega))⟩) hP hD hQ (Nat.le_of_ble_eq_true rfl) (Nat.le_of_ble_eq_true rfl) dX8_keep_52
set_option maxRecDepth 100000 in
set_option maxHeartbeats 4000000 in
theorem t_X8_advancemz (l : Launch) (D : va_G) (cI cR cM : ClassId) (sz : Nat) {jn : Nat} {g : Nat → Nat} {L : List Nat} {S : Sg} {f : Nat → va_E} {ks vs : Nat → Int} {m0 : Nat} (hj : 1 ≤ jn ∧ jn ≤ 3) (hG : SG g L S) (hI : IN jn cI cR cM g L S f) (hj1 : jn = 1) (hAr : TKz cI g ks vs f ((m0 : Int) + 1)) (hn0 : m0 ≤ 300) (hz0 : ∀ j : Nat, m0 ≤ j → ks j = 0) : Met l yX8_advance wsX8_advance ({ frames := 0, cells := 0, slots := 0, locals := 0 }) (P0 D cI cR cM [.ref (g 14)] sz (va_pl L f)) (QG (S := Nat → va_E) (fun u => none) (fun u => va_pl L u) (fun u => IN jn cI cR cM g L S u ∧ FR S [14] f u ∧ (TKm cI g ks vs u 0) ∧ (FX S (fun _ => False) [14] f u)) D (va_A (va_pl L f) sz)) 0 0 (va_A (va_pl L f) sz) := by
  refine go (cc := cX8_advance) (maxL := 1) (ret := none) (by decide +kernel) rfl (Nat.le_of_ble_eq_true rfl) ?_
  intro p e s m below meth c ls args Q hQ hsz hx hb hr hml hts hown hlocks hnm hP hK hD hl
  subst hsz
  have hD := hD.self (sz := s.heap.size)
  generalize hAe : va_A (va_pl L f) s.heap.size = A at hD hQ
  have hA : ∀ q, s.heap.size ≤ q → A q := fun q h => by rw [← hAe]; exact Or.inr h
  have hS : va_S A s.heap s.heap [] := va_S.rf
  have hFX : FX S (fun _ => False) [14] f f := FX_rf
  have hF : FR S [14] f f := FR_rf
  have hl : lv_has ls 1 [(0, .ref (g 14))] := hl
  obtain ⟨cnt_1, nx_1, kd_1, vl_1, st_1, ls_1, fg_1, iv0_1, iv1_1, iv2_1⟩ := op_14 hI (gm_14 hG) (gs_14 hG)
  obtain ⟨c_2, fg_2⟩ := op_31 hI (gm_31 hG) (gs_31 hG)
  obtain ⟨c_3, fg_3⟩ := op_32 hI (gm_32 hG) (gs_32 hG)
  obtain ⟨hq1, hq2⟩ := TKz_at hAr fg_1 fg_2 fg_3
  refine lv_aload_n hx hb dX8_advance_0 rfl (lv_at hl 0 rfl) ?_
  refine lv_aload_n hx hb dX8_advance_1 rfl (lv_at hl 0 rfl) ?_
  refine t_get (D := D) (L := L) (f := f) (ci := 8) (v := .int st_1) (C := RX8) (T := TX8) (N := 10) hx hb hts (by decide +kernel) hown hK.1 hP (gm_14 hG) fg_1 rfl 8 (by decide) (hts (.fieldLink RX8 56 "JugglingHall$Tokens" "start" "I") (by decide +kernel)) (fun _ h9 => h9) rfl dX8_advance_2 ?_
  refine t_put (D := D) (L := L) (f := f) (ci := 8) (v := .int st_1) (ty := .int) (C := RX8) (T := TX8) (N := 10) hx hb hts (by decide +kernel) tyX8 tyX8_ok nmX8 hown hK.1 hP hD hS (gm_14 hG) fg_1 rfl 9 (by decide) (hts (.fieldLink RX8 62 "JugglingHall$Tokens" "lastStart" "I") (by decide +kernel)) (fun _ h9 => h9) rfl (by decide +kernel) rfl rfl (Nat.le_of_ble_eq_true rfl) dX8_advance_5 (fun f_4 H locs e9_4 o_4 hP hD hS => ?_)
  have fa_4 : f_4 (g 14) = .inr (8, [.ref (g 11), .ref (g 31), .ref (g 32), .ref (g 33), .int cnt_1, .int nx_1, .int kd_1, .int vl_1, .int st_1, .int st_1]) := e9_4
  have hI := IN_set (e := .inr (8, [.ref (g 11), .ref (g 31), .ref (g 32), .ref (g 33), .int cnt_1, .int nx_1, .int kd_1, .int vl_1, .int st_1, .int st_1])) hI (gs_14 hG) (mk_14 (by first | assumption | omega | (subst hj1; omega)) (by first | assumption | omega | (subst hj1; omega)) (by first | assumption | omega | (subst hj1; omega))) fa_4 o_4
  have hF := FR_set hF (gs_14 hG) (show (14 : Nat) ∈ ([14] : List Nat) by decide) o_4
  have hFX := FX_setT hFX (gs_14 hG) (show (14 : Nat) ∈ ([14] : List Nat) by decide) o_4
  have fb_5 : f_4 (g 31) = .inl (cI, 301, .inl c_2) := f_at o_4 (S_ne (gs_31 hG) (gs_14 hG) (show (31 : Nat) ≠ 14 by decide)) fg_2
  have fb_6 : f_4 (g 32) = .inl (cI, 301, .inl c_3) := f_at o_4 (S_ne (gs_32 hG) (gs_14 hG) (show (32 : Nat) ≠ 14 by decide)) fg_3
  refine lv_aload_n hx hb dX8_advance_8 rfl (lv_at hl 0 rfl) ?_
  refine t_get (D := D) (L := L) (f := f_4) (ci := 8) (v := .int nx_1) (C := RX8) (T := TX8) (N := 10) hx hb hts (by decide +kernel) hown hK.1 hP (gm_14 hG) fa_4 rfl 5 (by decide) (hts (.fieldLink RX8 53 "JugglingHall$Tokens" "next" "I") (by decide +kernel)) (fun _ h9 => h9) rfl dX8_advance_9 ?_
  refine lv_aload_n hx hb dX8_advance_12 rfl (lv_at hl 0 rfl) ?_
  refine t_get (D := D) (L := L) (f := f_4) (ci := 8) (v := .int cnt_1) (C := RX8) (T := TX8) (N := 10) hx hb hts (by decide +kernel) hown hK.1 hP (gm_14 hG) fa_4 rfl 4 (by decide) (hts (.fieldLink RX8 25 "JugglingHall$Tokens" "count" "I") (by decide +kernel)) (fun _ h9 => h9) rfl dX8_advance_13 ?_
  refine a_icmp_ge (u := nx_1.toInt) (v := cnt_1.toInt) (tgt := 68) hx hb dX8_advance_16 (by decide) (rfl) (rfl) (fun c_7 => absurd c_7 (by subst hj1; omega)) (fun c_7 => ?_)
  refine lv_aload_n hx hb dX8_advance_19 rfl (lv_at hl 0 rfl) ?_
  refine lv_aload_n hx hb dX8_advance_20 rfl (lv_at hl 0 rfl) ?_
  refine t_get (D := D) (L := L) (f := f_4) (ci := 8) (v := .ref (g 31)) (C := RX8) (T := TX8) (N := 10) hx hb hts (by decide +kernel) hown hK.1 hP (gm_14 hG) fa_4 rfl 1 (by decide) (hts (.fieldLink RX8 9 "JugglingHall$Tokens" "kinds" "[I") (by decide +kernel)) (fun _ h9 => h9) rfl dX8_advance_21 ?_
  refine lv_aload_n hx hb dX8_advance_24 rfl (lv_at hl 0 rfl) ?_
  refine t_get (D := D) (L := L) (f := f_4) (ci := 8) (v := .int nx_1) (C := RX8) (T := TX8) (N := 10) hx hb hts (by decide +kernel) hown hK.1 hP (gm_14 hG) fa_4 rfl 5 (by decide) (hts (.fieldLink RX8 53 "JugglingHall$Tokens" "next" "I") (by decide +kernel)) (fun _ h9 => h9) rfl dX8_advance_25 ?_
  refine t_iald (L := L) (f := f_4) (y := c_2) (u := nx_1.toInt) hx hb hK.1 hP (gm_31 hG) 0 fb_5 rfl dX8_advance_28 (rfl) (by subst hj1; omega) (fun z_8 q_8 e_8 => ?_)
  refine t_put (D := D) (L := L) (f := f_4) (ci := 8) (v := .int z_8) (ty := .int) (C := RX8) (T := TX8) (N := 10) hx hb hts (by decide +kernel) tyX8 tyX8_ok nmX8 hown hK.1 hP hD hS (gm_14 hG) fa_4 rfl 6 (by decide) (hts (.fieldLink RX8 65 "JugglingHall$Tokens" "kind" "I") (by decide +kernel)) (fun _ h9 => h9) rfl (by decide +kernel) rfl rfl (Nat.le_of_ble_eq_true rfl) dX8_advance_29 (fun f_9 H locs e9_9 o_9 hP hD hS => ?_)
  have fa_9 : f_9 (g 14) = .inr (8, [.ref (g 11), .ref (g 31), .ref (g 32), .ref (g 33), .int cnt_1, .int nx_1, .int z_8, .int vl_1, .int st_1, .int st_1]) := e9_9
  have hI := IN_set (e := .inr (8, [.ref (g 11), .ref (g 31), .ref (g 32), .ref (g 33), .int cnt_1, .int nx_1, .int z_8, .int vl_1, .int st_1, .int st_1])) hI (gs_14 hG) (mk_14 (by first | assumption | omega | (subst hj1; omega)) (by first | assumption | omega | (subst hj1; omega)) (by first | assumption | omega | (subst hj1; omega))) fa_9 o_9
  have hF := FR_set hF (gs_14 hG) (show (14 : Nat) ∈ ([14] : List Nat) by decide) o_9
  have hFX := FX_setT hFX (gs_14 hG) (show (14 : Nat) ∈ ([14] : List Nat) by decide) o_9
  have fb_10 : f_9 (g 31) = .inl (cI, 301, .inl c_2) := f_at o_9 (S_ne (gs_31 hG) (gs_14 hG) (show (31 : Nat) ≠ 14 by decide)) fb_5
  have fb_11 : f_9 (g 32) = .inl (cI, 301, .inl c_3) := f_at o_9 (S_ne (gs_32 hG) (gs_14 hG) (show (32 : Nat) ≠ 14 by decide)) fb_6
  refine lv_aload_n hx hb dX8_advance_32 rfl (lv_at hl 0 rfl) ?_
  refine lv_aload_n hx hb dX8_advance_33 rfl (lv_at hl 0 rfl) ?_
  refine t_get (D := D) (L := L) (f := f_9) (ci := 8) (v := .ref (g 32)) (C := RX8) (T := TX8) (N := 10) hx hb hts (by decide +kernel) hown hK.1 hP (gm_14 hG) fa_9 rfl 2 (by decide) (hts (.fieldLink RX8 15 "JugglingHall$Tokens" "values" "[I") (by decide +kernel)) (fun _ h9 => h9) rfl dX8_advance_34 ?_
  refine lv_aload_n hx hb dX8_advance_37 rfl (lv_at hl 0 rfl) ?_
  refine t_get (D := D) (L := L) (f := f_9) (ci := 8) (v := .int nx_1) (C := RX8) (T := TX8) (N := 10) hx hb hts (by decide +kernel) hown hK.1 hP (gm_14 hG) fa_9 rfl 5 (by decide) (hts (.fieldLink RX8 53 "JugglingHall$Tokens" "next" "I") (by decide +kernel)) (fun _ h9 => h9) rfl dX8_advance_38 ?_
  refine t_iald (L := L) (f := f_9) (y := c_3) (u := nx_1.toInt) hx hb hK.1 hP (gm_32 hG) 0 fb_11 rfl dX8_advance_41 (rfl) (by subst hj1; omega) (fun z_12 q_12 e_12 => ?_)
  refine t_put (D := D) (L := L) (f := f_9) (ci := 8) (v := .int z_12) (ty := .int) (C := RX8) (T := TX8) (N := 10) hx hb hts (by decide +kernel) tyX8 tyX8_ok nmX8 hown hK.1 hP hD hS (gm_14 hG) fa_9 rfl 7 (by decide) (hts (.fieldLink RX8 68 "JugglingHall$Tokens" "value" "I") (by decide +kernel)) (fun _ h9 => h9) rfl (by decide +kernel) rfl rfl (Nat.le_of_ble_eq_true rfl) dX8_advance_42 (fun f_13 H locs e9_13 o_13 hP hD hS => ?_)
  have fa_13 : f_13 (g 14) = .inr (8, [.ref (g 11), .ref (g 31), .ref (g 32), .ref (g 33), .int cnt_1, .int nx_1, .int z_8, .int z_12, .int st_1, .int st_1]) := e9_13
  have hI := IN_set (e := .inr (8, [.ref (g 11), .ref (g 31), .ref (g 32), .ref (g 33), .int cnt_1, .int nx_1, .int z_8, .int z_12, .int st_1, .int st_1])) hI (gs_14 hG) (mk_14 (by first | assumption | omega | (subst hj1; omega)) (by first | assumption | omega | (subst hj1; omega)) (by first | assumption | omega | (subst hj1; omega))) fa_13 o_13
  have hF := FR_set hF (gs_14 hG) (show (14 : Nat) ∈ ([14] : List Nat) by decide) o_13
  have hFX := FX_setT hFX (gs_14 hG) (show (14 : Nat) ∈ ([14] : List Nat) by decide) o_13
  have fb_14 : f_13 (g 31) = .inl (cI, 301, .inl c_2) := f_at o_13 (S_ne (gs_31 hG) (gs_14 hG) (show (31 : Nat) ≠ 14 by decide)) fb_10
  have fb_15 : f_13 (g 32) = .inl (cI, 301, .inl c_3) := f_at o_13 (S_ne (gs_32 hG) (gs_14 hG) (show (32 : Nat) ≠ 14 by decide)) fb_11
  refine lv_aload_n hx hb dX8_advance_45 rfl (lv_at hl 0 rfl) ?_
  refine lv_aload_n hx hb dX8_advance_46 rfl (lv_at hl 0 rfl) ?_
  refine t_get (D := D) (L := L) (f := f_13) (ci := 8) (v := .ref (g 33)) (C := RX8) (T := TX8) (N := 10) hx hb hts (by decide +kernel) hown hK.1 hP (gm_14 hG) fa_13 rfl 3 (by decide) (hts (.fieldLink RX8 18 "JugglingHall$Tokens" "starts" "[I") (by decide +kernel)) (fun _ h9 => h9) rfl dX8_advance_47 ?_
  refine lv_aload_n hx hb dX8_advance_50 rfl (lv_at hl 0 rfl) ?_
  refine t_get (D := D) (L := L) (f := f_13) (ci := 8) (v := .int nx_1) (C := RX8) (T := TX8) (N := 10) hx hb hts (by decide +kernel) hown hK.1 hP (gm_14 hG) fa_13 rfl 5 (by decide) (hts (.fieldLink RX8 53 "JugglingHall$Tokens" "next" "I") (by decide +kernel)) (fun _ h9 => h9) rfl dX8_advance_51 ?_
  obtain ⟨c_16, fg_16⟩ := op_33 hI (gm_33 hG) (gs_33 hG)
  refine t_iald (L := L) (f := f_13) (y := c_16) (u := nx_1.toInt) hx hb hK.1 hP (gm_33 hG) 0 fg_16 rfl dX8_advance_54 (rfl) (by subst hj1; omega) (fun z_17 q_17 e_17 => ?_)
  refine t_put (D := D) (L := L) (f := f_13) (ci := 8) (v := .int z_17) (ty := .int) (C := RX8) (T := TX8) (N := 10) hx hb hts (by decide +kernel) tyX8 tyX8_ok nmX8 hown hK.1 hP hD hS (gm_14 hG) fa_13 rfl 8 (by decide) (hts (.fieldLink RX8 56 "JugglingHall$Tokens" "start" "I") (by decide +kernel)) (fun _ h9 => h9) rfl (by decide +kernel) rfl rfl (Nat.le_of_ble_eq_true rfl) dX8_advance_55 (fun f_18 H locs e9_18 o_18 hP hD hS => ?_)
  have fa_18 : f_18 (g 14) = .inr (8, [.ref (g 11), .ref (g 31), .ref (g 32), .ref (g 33), .int cnt_1, .int nx_1, .int z_8, .int z_12, .int z_17, .int st_1]) := e9_18
  have hI := IN_set (e := .inr (8, [.ref (g 11), .ref (g 31), .ref (g 32), .ref (g 33), .int cnt_1, .int nx_1, .int z_8, .int z_12, .int z_17, .int st_1])) hI (gs_14 hG) (mk_14 (by first | assumption | omega | (subst hj1; omega)) (by first | assumption | omega | (subst hj1; omega)) (by first | assumption | omega | (subst hj1; omega))) fa_18 o_18
  have hF := FR_set hF (gs_14 hG) (show (14 : Nat) ∈ ([14] : List Nat) by decide) o_18
  have hFX := FX_setT hFX (gs_14 hG) (show (14 : Nat) ∈ ([14] : List Nat) by decide) o_18
  have fb_19 : f_18 (g 31) = .inl (cI, 301, .inl c_2) := f_at o_18 (S_ne (gs_31 hG) (gs_14 hG) (show (31 : Nat) ≠ 14 by decide)) fb_14
  have fb_20 : f_18 (g 32) = .inl (cI, 301, .inl c_3) := f_at o_18 (S_ne (gs_32 hG) (gs_14 hG) (show (32 : Nat) ≠ 14 by decide)) fb_15
  have fb_21 : f_18 (g 33) = .inl (cI, 301, .inl c_16) := f_at o_18 (S_ne (gs_33 hG) (gs_14 hG) (show (33 : Nat) ≠ 14 by decide)) fg_16
  refine lv_aload_n hx hb dX8_advance_58 rfl (lv_at hl 0 rfl) ?_
  refine lv_dup hx hb dX8_advance_59 rfl ?_
  refine t_get (D := D) (L := L) (f := f_18) (ci := 8) (v := .int nx_1) (C := RX8) (T := TX8) (N := 10) hx hb hts (by decide +kernel) hown hK.1 hP (gm_14 hG) fa_18 rfl 5 (by decide) (hts (.fieldLink RX8 53 "JugglingHall$Tokens" "next" "I") (by decide +kernel)) (fun _ h9 => h9) rfl dX8_advance_60 ?_
  refine lv_iconst (v := 1) hx hb dX8_advance_63 (by decide) ?_
  refine a_iadd (u := nx_1.toInt) (v := 1) hx hb dX8_advance_64 (rfl) (by decide) (by subst hj1; omega) (fun z_22 e_22 => ?_)
  refine t_put (D := D) (L := L) (f := f_18) (ci := 8) (v := .int z_22) (ty := .int) (C := RX8) (T := TX8) (N := 10) hx hb hts (by decide +kernel) tyX8 tyX8_ok nmX8 hown hK.1 hP hD hS (gm_14 hG) fa_18 rfl 5 (by decide) (hts (.fieldLink RX8 53 "JugglingHall$Tokens" "next" "I") (by decide +kernel)) (fun _ h9 => h9) rfl (by decide +kernel) rfl rfl (Nat.le_of_ble_eq_true rfl) dX8_advance_65 (fun f_23 H locs e9_23 o_23 hP hD hS => ?_)
  have fa_23 : f_23 (g 14) = .inr (8, [.ref (g 11), .ref (g 31), .ref (g 32), .ref (g 33), .int cnt_1, .int z_22, .int z_8, .int z_12, .int z_17, .int st_1]) := e9_23
  have hI := IN_set (e := .inr (8, [.ref (g 11), .ref (g 31), .ref (g 32), .ref (g 33), .int cnt_1, .int z_22, .int z_8, .int z_12, .int z_17, .int st_1])) hI (gs_14 hG) (mk_14 (by first | assumption | omega | (subst hj1; omega)) (by first | assumption | omega | (subst hj1; omega)) (by first | assumption | omega | (subst hj1; omega))) fa_23 o_23
  have hF := FR_set hF (gs_14 hG) (show (14 : Nat) ∈ ([14] : List Nat) by decide) o_23
  have hFX := FX_setT hFX (gs_14 hG) (show (14 : Nat) ∈ ([14] : List Nat) by decide) o_23
  have fb_24 : f_23 (g 31) = .inl (cI, 301, .inl c_2) := f_at o_23 (S_ne (gs_31 hG) (gs_14 hG) (show (31 : Nat) ≠ 14 by decide)) fb_19
  have fb_25 : f_23 (g 32) = .inl (cI, 301, .inl c_3) := f_at o_23 (S_ne (gs_32 hG) (gs_14 hG) (show (32 : Nat) ≠ 14 by decide)) fb_20
  have fb_26 : f_23 (g 33) = .inl (cI, 301, .inl c_16) := f_at o_23 (S_ne (gs_33 hG) (gs_14 hG) (show (33 : Nat) ≠ 14 by decide)) fb_21
  exact g_vret f_23 hx hb hr hlocks hS rfl (⟨hI, hF, show TKm cI g ks vs f_23 0 from (⟨_, _, _, _, _, _, _, _, fa_23, fb_24, fb_25, tk_fin hq1 hn0 hz0 (by rw [q_8, hq2]) (by rw [q_12, hq2]) (by subst hj1; omega)⟩), show FX S (fun _ => False) [14] f f_23 from (by first | assumption | omega | (subst hj1; omega))⟩) hP hD hQ (Nat.le_of_ble_eq_true rfl) (Nat.le_of_ble_eq_true rfl) dX8_advance_68
