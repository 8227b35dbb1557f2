theorem LatV_m {R : Nat → Int32} {l t r : Int} (h : LatV R l t r) (h0 : 0 ≤ l) (h1 : r < 0) : r = -1 := by
  rcases h with ⟨h2, _⟩ | ⟨u, u1, u2, u3, _⟩ <;> omega
set_option maxRecDepth 100000 in
set_option maxHeartbeats 4000000 in
theorem k_latest4 (l : Launch) (D : va_G) (cI cR cM : ClassId) (sz : Nat) {jn mm : Nat} {q : Nat → Nat} {x0 x1 x2 x3 x4 x5 x6 x7 x8 x9 x10 x11 x12 x13 x14 x15 x16 x17 x18 x19 x20 : Int32} {f0 f1 f2 f3 f4 f5 f6 f7 f8 f9 f10 f11 f12 f13 f14 f15 f16 f17 f18 f19 f20 f21 f22 f23 f24 : Nat → Int32} {k t : Int32}  (h1 : 0 ≤ t.toInt ∧ t.toInt ≤ 60) (h2 : 0 ≤ k.toInt ∧ k.toInt < 8) (hR : RowsX jn f0) (hRZ : RowsZ jn f0) : Met l yX11_latest wsX11_latest ({ frames := 1, cells := 0, slots := 0, locals := 21 }) (P0 D cI cR cM [.ref mm, .int k, .int t] sz (mX mm q jn cI x0 x1 x2 x3 x4 x5 x6 x7 x8 x9 x10 x11 x12 x13 x14 x15 x16 x17 x18 x19 x20 f0 f1 f2 f3 f4 f5 f6 f7 f8 f9 f10 f11 f12 f13 f14 f15 f16 f17 f18 f19 f20 f21 f22 f23 f24)) (QP (fun r => (r.toInt = -1 ∨ (IsRow jn f0 r.toInt ∧ ZX jn f0 (r.toInt + 1) (f0 r.toInt.toNat).toInt)) ∧ (r.toInt ≤ 150 * (8 * t.toInt + 7)) ∧ (LatV f0 k.toInt t.toInt r.toInt)) sz) 0 0 (va_A [] sz) := by
  refine go (cc := cX11_latest) (maxL := 4) (ret := (some .int)) (by decide) rfl (Nat.le_of_ble_eq_true rfl) ?_
  intro p e s m below meth c ls args Q hQ hsz hx hb hr hml hts hown hlocks hnm hP hK hD hl
  subst hsz
  have hS : va_S (va_A [] s.heap.size) s.heap s.heap [] := va_S.rf
  have hA : ∀ q, s.heap.size ≤ q → va_A [] s.heap.size q := fun q h => Or.inr h
  have hl : lv_has ls 4 [(0, .ref mm), (1, .int k), (2, .int t)] := hl
  refine lv_iload_n hx hb dX11_latest_0 rfl (lv_at hl 2 rfl) ?_
  refine lv_istore_n (lv' := [(3, .int t), (0, .ref mm), (1, .int k), (2, .int t)]) hx hb dX11_latest_1 rfl hl (by decide) rfl (fun ls hl => ?_)
  have loop2 : ∀ (ddloop2 : Nat) (i : Int32) (H : Heap) (locs : List Loc) (ls : Array Slot), (i.toInt).toNat < ddloop2 → (0 ≤ i.toInt ∧ i.toInt ≤ t.toInt) → (∀ v9 : Int, i.toInt < v9 → v9 ≤ t.toInt → (f0 (150 * (8 * v9 + k.toInt)).toNat).toInt ≤ 0) → va_P D vwCl (mX mm q jn cI x0 x1 x2 x3 x4 x5 x6 x7 x8 x9 x10 x11 x12 x13 x14 x15 x16 x17 x18 x19 x20 f0 f1 f2 f3 f4 f5 f6 f7 f8 f9 f10 f11 f12 f13 f14 f15 f16 f17 f18 f19 f20 f21 f22 f23 f24) H → va_S (va_A [] s.heap.size) s.heap H locs → lv_has ls 4 [(0, .ref mm), (1, .int k), (2, .int t), (3, .int i)] → W p l e ({ frames := 1, cells := 0, slots := 0, locals := 21 }) s m args below meth c H locs 0 0 Q (F0 m 2 ls []) := by
    intro ddloop2
    induction ddloop2 with
    | zero =>
      intro i H locs ls hdd
      exact absurd hdd (Nat.not_lt_zero _)
    | succ ddloop2 ih2 =>
      intro i H locs ls hdd hi hno hP hS hl
      refine lv_iload_n hx hb dX11_latest_2 rfl (lv_at hl 3 rfl) ?_
      refine a_if_le (u := i.toInt) (tgt := 31) hx hb dX11_latest_3 (by decide) (rfl) (fun c_1 => ?_) (fun c_1 => ?_)
      · refine lv_iconst (v := (-1)) hx hb dX11_latest_31 (by decide) ?_
        have hz_2 : (-1 : Int32).toInt = (-1) := by decide
        exact rp_iret hx hb hr hlocks hS (⟨show (-1 : Int32).toInt = -1 ∨ (IsRow jn f0 (-1 : Int32).toInt ∧ ZX jn f0 ((-1 : Int32).toInt + 1) (f0 (-1 : Int32).toInt.toNat).toInt) from (Or.inl (by omega)), show (-1 : Int32).toInt ≤ 150 * (8 * t.toInt + 7) from (by first | assumption | omega), show LatV f0 k.toInt t.toInt (-1 : Int32).toInt from (Or.inl ⟨by omega, fun u9 h8 h9 => hno u9 (by omega) h9⟩)⟩) hQ dX11_latest_32
      · refine lv_aload_n hx hb dX11_latest_6 rfl (lv_at hl 0 rfl) ?_
        refine va_get (D := D) (ci := 11) (v := .ref (q 0)) (C := RX11) (T := TX11) (N := 47) hx hb hts (by decide +kernel) hown hK.1 hP 0 rfl rfl 1 (by decide) (hts (.fieldLink RX11 8 "JugglingHallModel" "rows" "[I") (by decide +kernel)) (fun _ h9 => h9) rfl dX11_latest_7 ?_
        refine lv_iload_n hx hb dX11_latest_10 rfl (lv_at hl 3 rfl) ?_
        refine lv_iload_n hx hb dX11_latest_11 rfl (lv_at hl 1 rfl) ?_
        refine roP (va_runS (As := [.int i, .int k]) (rest := [.ref (q 0)]) ⟨hx, hb, hml, hown, hts⟩ (k_rowAt l D cI cR cM _  (by first | assumption | omega) (by first | assumption | omega)) (va_cwS 2 hts gX11_latest_X11_rowAt rfl rfl rfl (by decide +kernel) ⟨Nat.le_of_ble_eq_true rfl, Nat.le_of_ble_eq_true rfl⟩) (pre_S hK va_P_nil (va_D_nil (A := fun _ => True))) rfl rfl hl.1 rfl (lv_room (Nat.le_of_ble_eq_true rfl)) dX11_latest_12 ⟨Nat.le_of_ble_eq_true rfl, Nat.le_of_ble_eq_true rfl⟩) hS hA hP (fun r_3 H locs hw hP hS => ?_)
        have h_3 : (r_3.toInt = 150 * (8 * i.toInt + k.toInt)) := hw
        refine a_iald (f := f0) (u := r_3.toInt) hx hb hK.1 hP 1 0 rfl rfl dX11_latest_15 (rfl) (by omega) (fun z_4 q_4 e_4 => ?_)
        refine a_if_le (u := z_4.toInt) (tgt := 25) hx hb dX11_latest_16 (by decide) (rfl) (fun c_5 => ?_) (fun c_5 => ?_)
        · obtain ⟨z_6, q_6, e_6⟩ := i_inc (a := i.toInt) (-1) (rfl) (by decide) (by omega) (by omega)
          refine lv_iinc (v := z_6) (lv' := [(3, .int z_6), (0, .ref mm), (1, .int k), (2, .int t)]) hx hb dX11_latest_25 hl (k := 3) rfl q_6 (by decide) rfl (fun ls hl => ?_)
          refine lv_goto (tgt := 2) hx hb dX11_latest_28 (by decide) ?_
          exact ih2 z_6 _ _ _ (by omega) (by first | assumption | omega) (fun v9 h8 h9 => by
            by_cases q : v9 = i.toInt
            · rw [q, show 150 * (8 * i.toInt + k.toInt) = r_3.toInt by omega]; omega
            · exact hno v9 (by omega) h9) hP hS (lv_sub hl [1, 2, 3, 0] rfl)
        · refine lv_iload_n hx hb dX11_latest_19 rfl (lv_at hl 3 rfl) ?_
          refine lv_iload_n hx hb dX11_latest_20 rfl (lv_at hl 1 rfl) ?_
          refine roP (va_runS (As := [.int i, .int k]) (rest := []) ⟨hx, hb, hml, hown, hts⟩ (k_rowAt l D cI cR cM _  (by first | assumption | omega) (by first | assumption | omega)) (va_cwS 2 hts gX11_latest_X11_rowAt rfl rfl rfl (by decide +kernel) ⟨Nat.le_of_ble_eq_true rfl, Nat.le_of_ble_eq_true rfl⟩) (pre_S hK va_P_nil (va_D_nil (A := fun _ => True))) rfl rfl hl.1 rfl (lv_room (Nat.le_of_ble_eq_true rfl)) dX11_latest_21 ⟨Nat.le_of_ble_eq_true rfl, Nat.le_of_ble_eq_true rfl⟩) hS hA hP (fun r_7 H locs hw hP hS => ?_)
          have h_7 : (r_7.toInt = 150 * (8 * i.toInt + k.toInt)) := hw
          exact rp_iret hx hb hr hlocks hS (⟨show r_7.toInt = -1 ∨ (IsRow jn f0 r_7.toInt ∧ ZX jn f0 (r_7.toInt + 1) (f0 r_7.toInt.toNat).toInt) from (Or.inr (by have hq2 := hR i.toInt k.toInt (by omega) (by omega) (by omega) (by omega); have hqz := hRZ i.toInt k.toInt (by omega) (by omega) (by omega) (by omega); have hq3 : 150 * (8 * i.toInt + k.toInt) = r_7.toInt := (by omega); have hq4 : r_3.toInt = r_7.toInt := (by omega); rw [hq3] at hq2 hqz; rw [hq4] at e_4; exact ⟨⟨by omega, by omega, by omega, hq2⟩, hqz⟩)), show r_7.toInt ≤ 150 * (8 * t.toInt + 7) from (by first | assumption | omega), show LatV f0 k.toInt t.toInt r_7.toInt from (Or.inr ⟨i.toInt, by omega, by omega, by omega, by rw [show r_7.toInt = r_3.toInt by omega]; omega, hno⟩)⟩) hQ dX11_latest_24
  exact loop2 ((t.toInt).toNat + 1) t _ _ _ (by omega) (by first | assumption | omega) (fun v9 h8 h9 => absurd h9 (by omega)) hP hS (lv_sub hl [1, 2, 3, 0] rfl)
set_option maxRecDepth 100000 in
set_option maxHeartbeats 4000000 in
theorem k_letter3 (l : Launch) (D : va_G) (cI cR cM : ClassId) (sz : Nat) {jn mm : Nat} {q : Nat → Nat} {x0 x1 x2 x3 x4 x5 x6 x7 x8 x9 x10 x11 x12 x13 x14 x15 x16 x17 x18 x19 x20 : Int32} {f0 f1 f2 f3 f4 f5 f6 f7 f8 f9 f10 f11 f12 f13 f14 f15 f16 f17 f18 f19 f20 f21 f22 f23 f24 : Nat → Int32} {P ks vs : Nat → Int} {i : Nat} {E : Int → Int × (Int → Int)} (ht : 0 ≤ x2.toInt ∧ x2.toInt ≤ 300) (h5 : 0 ≤ x5.toInt ∧ x5.toInt ≤ x2.toInt) (hT : TokOK x7 x8) (hj : 1 ≤ jn ∧ jn ≤ 3) (h11 : 0 ≤ x11.toInt ∧ x11.toInt ≤ 5) (hs : 0 ≤ (f6 x11.toInt.toNat).toInt ∧ (f6 x11.toInt.toNat).toInt ≤ x10.toInt) (h10 : 0 ≤ x10.toInt ∧ x10.toInt ≤ 150) (hC : CellsX jn f3 0 (6 * x10.toInt)) (h0 : 0 ≤ x0.toInt ∧ x0.toInt ≤ 60) (hv : 0 ≤ x8.toInt ∧ x8.toInt ≤ 7) (hR : RowsX jn f0) (hFr : FreshX jn f8 f9) (hZ0 : ZX jn f3 0 x10.toInt) (hRZ : RowsZ jn f0) (hFZ : FreshZ jn f8 f9) (hj1 : jn = 1) (hSM : SM (sE f2 x2.toInt) P ks vs) (hCU : CU P ks vs i x5 x7 x8) (hE : EnvF f0 f8 f9 x0.toInt E) (hk2 : x7.toInt = 2) : Met l yX11_letter wsX11_letter ({ frames := 4, cells := 0, slots := 0, locals := 88 }) (P0 D cI cR cM [.ref mm] sz (mX mm q jn cI x0 x1 x2 x3 x4 x5 x6 x7 x8 x9 x10 x11 x12 x13 x14 x15 x16 x17 x18 x19 x20 f0 f1 f2 f3 f4 f5 f6 f7 f8 f9 f10 f11 f12 f13 f14 f15 f16 f17 f18 f19 f20 f21 f22 f23 f24)) (QG (S := Int32 × Int32 × Int32 × Int32 × Int32 × Int32 × Int32 × Int32 × (Nat → Int32)) (fun u => some (.int u.1)) (fun u => mX mm q jn cI x0 x1 x2 x3 x4 (u.2.1) (u.2.2.1) (u.2.2.2.1) (u.2.2.2.2.1) (u.2.2.2.2.2.1) (u.2.2.2.2.2.2.1) x11 (u.2.2.2.2.2.2.2.1) x13 x14 x15 x16 x17 x18 x19 x20 f0 f1 f2 (u.2.2.2.2.2.2.2.2) f4 f5 f6 f7 f8 f9 f10 f11 f12 f13 f14 f15 f16 f17 f18 f19 f20 f21 f22 f23 f24) (fun u => (x5.toInt ≤ u.2.1.toInt ∧ u.2.1.toInt ≤ x2.toInt) ∧ (TokOK u.2.2.2.1 u.2.2.2.2.1) ∧ (u.1.toInt = 0 → x5.toInt < u.2.1.toInt ∨ u.2.2.2.1.toInt = 0) ∧ (u.1.toInt = 0 → x10.toInt ≤ u.2.2.2.2.2.2.1.toInt ∧ u.2.2.2.2.2.2.2.1.toInt = x10.toInt) ∧ (u.1.toInt = 0 → u.2.2.2.2.2.2.1.toInt - (f6 x11.toInt.toNat).toInt ≤ 24) ∧ (u.1.toInt = 0 → CellsX jn u.2.2.2.2.2.2.2.2 0 (6 * u.2.2.2.2.2.2.1.toInt)) ∧ (u.1.toInt = 0 → ZX jn u.2.2.2.2.2.2.2.2 0 u.2.2.2.2.2.2.1.toInt) ∧ ((u.1.toInt = 0 ∧ 0 < (E (vs i)).1 ∧ x10.toInt - (f6 x11.toInt.toNat).toInt + (E (vs i)).1 ≤ 24 ∧ CU P ks vs (i + 1) u.2.1 u.2.2.2.1 u.2.2.2.2.1 ∧ u.2.2.2.2.2.2.1.toInt = x10.toInt + (E (vs i)).1 ∧ (∀ i9 : Int, 0 ≤ i9 → i9 < 6 * x10.toInt → u.2.2.2.2.2.2.2.2 i9.toNat = f3 i9.toNat) ∧ RSo u.2.2.2.2.2.2.2.2 (6 * x10.toInt) (E (vs i)).2 (E (vs i)).1) ∨ (u.1.toInt ≠ 0 ∧ ((E (vs i)).1 ≤ 0 ∨ 24 < x10.toInt - (f6 x11.toInt.toNat).toInt + (E (vs i)).1)))) D (va_A (mX mm q jn cI x0 x1 x2 x3 x4 x5 x6 x7 x8 x9 x10 x11 x12 x13 x14 x15 x16 x17 x18 x19 x20 f0 f1 f2 f3 f4 f5 f6 f7 f8 f9 f10 f11 f12 f13 f14 f15 f16 f17 f18 f19 f20 f21 f22 f23 f24) sz)) 0 0 (va_A (mX mm q jn cI x0 x1 x2 x3 x4 x5 x6 x7 x8 x9 x10 x11 x12 x13 x14 x15 x16 x17 x18 x19 x20 f0 f1 f2 f3 f4 f5 f6 f7 f8 f9 f10 f11 f12 f13 f14 f15 f16 f17 f18 f19 f20 f21 f22 f23 f24) sz) := by
  refine go (cc := cX11_letter) (maxL := 6) (ret := (some .int)) (by decide) rfl (Nat.le_of_ble_eq_true rfl) ?_
  intro p e s m below meth c ls args Q hQ hsz hx hb hr hml hts hown hlocks hnm hP hK hD hl
  subst hsz
  have hD := hD.self (sz := s.heap.size)
  generalize hAe : va_A (mX mm q jn cI x0 x1 x2 x3 x4 x5 x6 x7 x8 x9 x10 x11 x12 x13 x14 x15 x16 x17 x18 x19 x20 f0 f1 f2 f3 f4 f5 f6 f7 f8 f9 f10 f11 f12 f13 f14 f15 f16 f17 f18 f19 f20 f21 f22 f23 f24) s.heap.size = A at hD hQ
  have hA : ∀ q, s.heap.size ≤ q → A q := fun q h => by rw [← hAe]; exact Or.inr h
  have hS : va_S A s.heap s.heap [] := va_S.rf
  have hl : lv_has ls 6 [(0, .ref mm)] := hl
  have hcu0 := hCU
  obtain ⟨u1_0, u2_0, u3_0⟩ := hcu0
  refine lv_aload_n hx hb dX11_letter_0 rfl (lv_at hl 0 rfl) ?_
  refine va_get (D := D) (ci := 11) (v := .int x8) (C := RX11) (T := TX11) (N := 47) hx hb hts (by decide +kernel) hown hK.1 hP 0 rfl rfl 12 (by decide) (hts (.fieldLink RX11 138 "JugglingHallModel" "value" "I") (by decide +kernel)) (fun _ h9 => h9) rfl dX11_letter_1 ?_
  refine lv_istore_n (lv' := [(1, .int x8), (0, .ref mm)]) hx hb dX11_letter_4 rfl hl (by decide) rfl (fun ls hl => ?_)
  refine lv_aload_n hx hb dX11_letter_5 rfl (lv_at hl 1 rfl) ?_
  refine va_get (D := D) (ci := 11) (v := .int x6) (C := RX11) (T := TX11) (N := 47) hx hb hts (by decide +kernel) hown hK.1 hP 0 rfl rfl 10 (by decide) (hts (.fieldLink RX11 120 "JugglingHallModel" "place" "I") (by decide +kernel)) (fun _ h9 => h9) rfl dX11_letter_6 ?_
  refine lv_istore_n (lv' := [(2, .int x6), (1, .int x8), (0, .ref mm)]) hx hb dX11_letter_9 rfl hl (by decide) rfl (fun ls hl => ?_)
  refine lv_aload_n hx hb dX11_letter_10 rfl (lv_at hl 2 rfl) ?_
  refine lv_iload_n hx hb dX11_letter_11 rfl (lv_at hl 1 rfl) ?_
  refine lv_aload_n hx hb dX11_letter_12 rfl (lv_at hl 2 rfl) ?_
  refine va_get (D := D) (ci := 11) (v := .int x0) (C := RX11) (T := TX11) (N := 47) hx hb hts (by decide +kernel) hown hK.1 hP 0 rfl rfl 3 (by decide) (hts (.fieldLink RX11 185 "JugglingHallModel" "time" "I") (by decide +kernel)) (fun _ h9 => h9) rfl dX11_letter_13 ?_
  refine roP (va_runV (As := [.int x8, .int x0]) (rest := []) ⟨hx, hb, hml, hown, hts⟩ (k_latest4 l D cI cR cM _  (by first | assumption | omega) (by first | assumption | omega) (by first | assumption | omega) (by first | assumption | omega)) (cwV 2 hts gX11_letter_X11_latest rfl rfl rfl (by decide +kernel) ⟨Nat.le_of_ble_eq_true rfl, Nat.le_of_ble_eq_true rfl⟩) (pre_V hK hP hD 0 11 rfl rfl) rfl rfl hl.1 rfl (lv_room (Nat.le_of_ble_eq_true rfl)) dX11_letter_16 ⟨Nat.le_of_ble_eq_true rfl, Nat.le_of_ble_eq_true rfl⟩) hS hA hP (fun r_1 H locs hw hP hS => ?_)
  obtain ⟨h_1, hle_1, hL_1⟩ : (r_1.toInt = -1 ∨ (IsRow jn f0 r_1.toInt ∧ ZX jn f0 (r_1.toInt + 1) (f0 r_1.toInt.toNat).toInt)) ∧ (r_1.toInt ≤ 150 * (8 * x0.toInt + 7)) ∧ (LatV f0 x8.toInt x0.toInt r_1.toInt) := hw
  have hvi : x8.toInt = vs i := u3_0 (Or.inr (by omega))
  obtain ⟨hE1, hE2⟩ := hE x8.toInt (by omega) (by omega)
  rw [show E x8.toInt = E (vs i) by rw [hvi]] at hE1 hE2
  refine lv_istore_n (lv' := [(3, .int r_1), (2, .int x6), (1, .int x8), (0, .ref mm)]) hx hb dX11_letter_19 rfl hl (by decide) rfl (fun ls hl => ?_)
  obtain ⟨hfr1, hfr2, hfr3⟩ := hFr x8.toInt (by omega) (by omega)
  have hfz := hFZ x8.toInt (by omega) (by omega)
  refine lv_aload_n hx hb dX11_letter_20 rfl (lv_at hl 3 rfl) ?_
  refine va_get (D := D) (ci := 11) (v := .ref (q 8)) (C := RX11) (T := TX11) (N := 47) hx hb hts (by decide +kernel) hown hK.1 hP 0 rfl rfl 22 (by decide) (hts (.fieldLink RX11 42 "JugglingHallModel" "freshMany" "[I") (by decide +kernel)) (fun _ h9 => h9) rfl dX11_letter_21 ?_
  refine lv_iload_n hx hb dX11_letter_24 rfl (lv_at hl 2 rfl) ?_
  refine a_iald (f := f8) (u := x8.toInt) hx hb hK.1 hP 9 0 rfl rfl dX11_letter_25 (rfl) (by omega) (fun z_2 q_2 e_2 => ?_)
  refine a_if_le (u := z_2.toInt) (tgt := 38) hx hb dX11_letter_26 (by decide) (rfl) (fun c_3 => ?_) (fun c_3 => ?_)
  · refine lv_iload_n hx hb dX11_letter_38 rfl (lv_at hl 0 rfl) ?_
    refine a_if_ge (u := r_1.toInt) (tgt := 46) hx hb dX11_letter_39 (by decide) (rfl) (fun c_4 => ?_) (fun c_4 => ?_)
    · have hrowz := h_1.resolve_left (by omega)
      have hrow := hrowz.1
      have hrowz2 := hrowz.2
      have hrow1 := hrow.1
      have hrow2 := hrow.2.1
      have hrow3 := hrow.2.2.1
      have hrow4 := hrow.2.2.2.1
      have hrow5 := hrow.2.2.2.2.1
      have hrow6 := hrow.2.2.2.2.2
      have hLv := hL_1
      have hEn := (hE2 (by omega) _ hLv).2 (by omega)
      obtain ⟨hEa, hEb⟩ := hEn
      refine lv_aload_n hx hb dX11_letter_46 rfl (lv_at hl 3 rfl) ?_
      refine va_get (D := D) (ci := 11) (v := .ref (q 0)) (C := RX11) (T := TX11) (N := 47) hx hb hts (by decide +kernel) hown hK.1 hP 0 rfl rfl 1 (by decide) (hts (.fieldLink RX11 8 "JugglingHallModel" "rows" "[I") (by decide +kernel)) (fun _ h9 => h9) rfl dX11_letter_47 ?_
      refine lv_iload_n hx hb dX11_letter_50 rfl (lv_at hl 0 rfl) ?_
      refine a_iald (f := f0) (u := r_1.toInt) hx hb hK.1 hP 1 0 rfl rfl dX11_letter_51 (rfl) (by omega) (fun z_5 q_5 e_5 => ?_)
      refine lv_istore (lv' := [(4, .int z_5), (3, .int r_1), (2, .int x6), (1, .int x8), (0, .ref mm)]) hx hb dX11_letter_52 hl (by decide) rfl (fun ls hl => ?_)
      refine lv_iload hx hb dX11_letter_54 (lv_at hl 0 rfl) ?_
      refine a_if_ne (u := z_5.toInt) (tgt := 67) hx hb dX11_letter_56 (by decide) (rfl) (fun c_6 => ?_) (fun c_6 => ?_)
      · refine lv_aload_n hx hb dX11_letter_67 rfl (lv_at hl 4 rfl) ?_
        refine call_g (wr := []) (va_runV (As := []) (rest := []) ⟨hx, hb, hml, hown, hts⟩ (k_next2 l D cI cR cM _  (by first | assumption | omega) (by first | assumption | omega)) (cwV 0 hts gX11_letter_X11_nextToken rfl rfl rfl (by decide +kernel) ⟨Nat.le_of_ble_eq_true rfl, Nat.le_of_ble_eq_true rfl⟩) (pre_V hK hP hD 0 11 rfl rfl) rfl rfl hl.1 rfl (lv_room (Nat.le_of_ble_eq_true rfl)) dX11_letter_68 ⟨Nat.le_of_ble_eq_true rfl, Nat.le_of_ble_eq_true rfl⟩) hP hD hS hA [0, 1, 2, 3, 4, 5, 6, 7, 8, 9, 10, 11, 12, 13, 14, 15, 16, 17, 18, 19, 20, 21, 22, 23, 24, 25] [] (by with_unfolding_all rfl) rfl (by decide) (by decide) (fun u_7 H locs hw hP hD hS => ?_)
        obtain ⟨y5_7, y6_7, y7_7, y8_7⟩ := u_7
        have hP : va_P D vwCl (mX mm q jn cI x0 x1 x2 x3 x4 y5_7 y6_7 y7_7 y8_7 x9 x10 x11 x12 x13 x14 x15 x16 x17 x18 x19 x20 f0 f1 f2 f3 f4 f5 f6 f7 f8 f9 f10 f11 f12 f13 f14 f15 f16 f17 f18 f19 f20 f21 f22 f23 f24) H := hP
        have hD : va_D A (mX mm q jn cI x0 x1 x2 x3 x4 y5_7 y6_7 y7_7 y8_7 x9 x10 x11 x12 x13 x14 x15 x16 x17 x18 x19 x20 f0 f1 f2 f3 f4 f5 f6 f7 f8 f9 f10 f11 f12 f13 f14 f15 f16 f17 f18 f19 f20 f21 f22 f23 f24) := hD
        obtain ⟨ha_7, hp_7, hk_7, hT_7, hR_7⟩ : (x5.toInt ≤ y5_7.toInt ∧ y5_7.toInt ≤ x2.toInt) ∧ (0 ≤ y6_7.toInt ∧ y6_7.toInt ≤ 300) ∧ (y7_7.toInt = 0 ∨ x5.toInt < y5_7.toInt) ∧ (TokOK y7_7 y8_7) ∧ (∃ v9 : Int, TkR (sE f2 x2.toInt) x5.toInt y7_7.toInt v9 y6_7.toInt y5_7.toInt ∧ (y7_7.toInt = 1 ∨ y7_7.toInt = 2 → y8_7.toInt = v9)) := hw
        obtain ⟨v9_7, q1_7, q2_7⟩ := hR_7
        have hcu_7 : CU P ks vs (i + 1) y5_7 y7_7 y8_7 := CU_n hSM hCU.1 q1_7 q2_7
        have hcv_7 := hcu_7
        obtain ⟨u1_7, u2_7, u3_7⟩ := hcv_7
        refine lv_aload_n hx hb dX11_letter_71 rfl (lv_at hl 4 rfl) ?_
        refine lv_aload_n hx hb dX11_letter_72 rfl (lv_at hl 4 rfl) ?_
        refine va_get (D := D) (ci := 11) (v := .int x10) (C := RX11) (T := TX11) (N := 47) hx hb hts (by decide +kernel) hown hK.1 hP 0 rfl rfl 19 (by decide) (hts (.fieldLink RX11 151 "JugglingHallModel" "top" "I") (by decide +kernel)) (fun _ h9 => h9) rfl dX11_letter_73 ?_
        refine mp_12 hx hb hts (by decide +kernel) hown hK hP hD hS (hts (.fieldLink RX11 176 "JugglingHallModel" "oneStart" "I") (by decide +kernel)) dX11_letter_76 (fun H locs hP hD hS => ?_)
        refine lv_aload_n hx hb dX11_letter_79 rfl (lv_at hl 4 rfl) ?_
        refine roP (va_runV (As := []) (rest := []) ⟨hx, hb, hml, hown, hts⟩ (k_many l D cI cR cM _  (by first | assumption | omega) (by first | assumption | omega) (by first | assumption | omega)) (cwV 0 hts gX11_letter_X11_many rfl rfl rfl (by decide +kernel) ⟨Nat.le_of_ble_eq_true rfl, Nat.le_of_ble_eq_true rfl⟩) (pre_V hK hP hD 0 11 rfl rfl) rfl rfl hl.1 rfl (lv_room (Nat.le_of_ble_eq_true rfl)) dX11_letter_80 ⟨Nat.le_of_ble_eq_true rfl, Nat.le_of_ble_eq_true rfl⟩) hS hA hP (fun r_8 H locs hw hP hS => ?_)
        have h_8 : (r_8.toInt = x10.toInt - (f6 x11.toInt.toNat).toInt) := hw
        refine lv_iload hx hb dX11_letter_83 (lv_at hl 0 rfl) ?_
        refine a_iadd (u := r_8.toInt) (v := z_5.toInt) hx hb dX11_letter_85 (rfl) (rfl) (by omega) (fun z_9 e_9 => ?_)
        refine lv_bipush (v := 24) hx hb dX11_letter_86 (by decide) ?_
        refine a_icmp_le (u := (r_8.toInt + z_5.toInt)) (v := 24) (tgt := 98) hx hb dX11_letter_88 (by decide) (e_9) (by decide) (fun c_10 => ?_) (fun c_10 => ?_)
        · refine lv_iconst (v := 0) hx hb dX11_letter_98 (by decide) ?_
          refine lv_istore (lv' := [(5, .int 0), (4, .int z_5), (3, .int r_1), (2, .int x6), (1, .int x8), (0, .ref mm)]) hx hb dX11_letter_99 hl (by decide) rfl (fun ls hl => ?_)
          have loop101 : ∀ (ddloop101 : Nat) (k : Int32) (ga : (Nat → Int32)) (H : Heap) (locs : List Loc) (ls : Array Slot), (6 * z_5.toInt - k.toInt).toNat < ddloop101 → (0 ≤ k.toInt ∧ k.toInt ≤ 6 * z_5.toInt) → (∀ i : Int, 0 ≤ i → i < 6 * x10.toInt → ga i.toNat = f3 i.toNat) → (∀ i : Int, 0 ≤ i → i < k.toInt → ga (6 * x10.toInt + i).toNat = f0 ((r_1.toInt + 1) + i).toNat) → va_P D vwCl (mX mm q jn cI x0 x1 x2 x3 x4 y5_7 y6_7 y7_7 y8_7 x9 x10 x11 x10 x13 x14 x15 x16 x17 x18 x19 x20 f0 f1 f2 ga f4 f5 f6 f7 f8 f9 f10 f11 f12 f13 f14 f15 f16 f17 f18 f19 f20 f21 f22 f23 f24) H → va_D A (mX mm q jn cI x0 x1 x2 x3 x4 y5_7 y6_7 y7_7 y8_7 x9 x10 x11 x10 x13 x14 x15 x16 x17 x18 x19 x20 f0 f1 f2 ga f4 f5 f6 f7 f8 f9 f10 f11 f12 f13 f14 f15 f16 f17 f18 f19 f20 f21 f22 f23 f24) → va_S A s.heap H locs → lv_has ls 6 [(0, .ref mm), (1, .int x8), (2, .int x6), (3, .int r_1), (4, .int z_5), (5, .int k)] → W p l e ({ frames := 4, cells := 0, slots := 0, locals := 88 }) s m args below meth c H locs 0 0 Q (F0 m 101 ls []) := by
            intro ddloop101
            induction ddloop101 with
            | zero =>
              intro k ga H locs ls hdd
              exact absurd hdd (Nat.not_lt_zero _)
            | succ ddloop101 ih101 =>
              intro k ga H locs ls hdd hk hga hgs hP hD hS hl
              refine lv_iload hx hb dX11_letter_101 (lv_at hl 5 rfl) ?_
              refine lv_bipush (v := 6) hx hb dX11_letter_103 (by decide) ?_
              refine lv_iload hx hb dX11_letter_105 (lv_at hl 4 rfl) ?_
              refine a_imul (u := 6) (v := z_5.toInt) hx hb dX11_letter_107 (by decide) (rfl) (by omega) (fun z_11 e_11 => ?_)
              refine a_icmp_ge (u := k.toInt) (v := (6 * z_5.toInt)) (tgt := 168) hx hb dX11_letter_108 (by decide) (rfl) (e_11) (fun c_12 => ?_) (fun c_12 => ?_)
              · have hCn : CellsX jn ga 0 (6 * (x10.toInt + z_5.toInt)) := cx_app (src := f0) (lo := (r_1.toInt + 1)) hC (by have hq9 := hrow6; first | exact hq9 | (rw [show (r_1.toInt + 1) + 6 * z_5.toInt = r_1.toInt + 1 + 6 * (f0 r_1.toInt.toNat).toInt by omega]; exact hq9)) (by omega) (by omega) hga (fun i i0 i1 => hgs i i0 (by omega))
                have hZn : ZX jn ga 0 (x10.toInt + z_5.toInt) := zx_app (src := f0) (lo := (r_1.toInt + 1)) hZ0 (by have hq9 := hrowz2; first | exact hq9 | (rw [show z_5.toInt = (f0 r_1.toInt.toNat).toInt by omega]; exact hq9)) (by omega) hga (fun i i0 i1 => hgs i i0 (by omega))
                refine lv_aload_n hx hb dX11_letter_168 rfl (lv_at hl 0 rfl) ?_
                refine lv_dup hx hb dX11_letter_169 rfl ?_
                refine va_get (D := D) (ci := 11) (v := .int x10) (C := RX11) (T := TX11) (N := 47) hx hb hts (by decide +kernel) hown hK.1 hP 0 rfl rfl 19 (by decide) (hts (.fieldLink RX11 151 "JugglingHallModel" "top" "I") (by decide +kernel)) (fun _ h9 => h9) rfl dX11_letter_170 ?_
                refine lv_iload hx hb dX11_letter_173 (lv_at hl 4 rfl) ?_
                refine a_iadd (u := x10.toInt) (v := z_5.toInt) hx hb dX11_letter_175 (rfl) (rfl) (by omega) (fun z_13 e_13 => ?_)
                refine mp_10 hx hb hts (by decide +kernel) hown hK hP hD hS (hts (.fieldLink RX11 151 "JugglingHallModel" "top" "I") (by decide +kernel)) dX11_letter_176 (fun H locs hP hD hS => ?_)
                refine lv_iconst (v := 0) hx hb dX11_letter_179 (by decide) ?_
                have hz_14 : (0 : Int32).toInt = 0 := by decide
                exact g_iret ((0 : Int32), y5_7, y6_7, y7_7, y8_7, x9, z_13, x10, ga) hx hb hr hlocks hS rfl (⟨show x5.toInt ≤ y5_7.toInt ∧ y5_7.toInt ≤ x2.toInt from (by first | assumption | omega), show TokOK y7_7 y8_7 from (by first | assumption | omega), show (0 : Int32).toInt = 0 → x5.toInt < y5_7.toInt ∨ y7_7.toInt = 0 from (by first | assumption | omega), show (0 : Int32).toInt = 0 → x10.toInt ≤ z_13.toInt ∧ x10.toInt = x10.toInt from (by first | assumption | omega), show (0 : Int32).toInt = 0 → z_13.toInt - (f6 x11.toInt.toNat).toInt ≤ 24 from (by first | assumption | omega), show (0 : Int32).toInt = 0 → CellsX jn ga 0 (6 * z_13.toInt) from (fun _ => by rw [show 6 * z_13.toInt = 6 * (x10.toInt + z_5.toInt) by omega]; exact hCn), show (0 : Int32).toInt = 0 → ZX jn ga 0 z_13.toInt from (fun _ => by rw [show z_13.toInt = x10.toInt + z_5.toInt by omega]; exact hZn), show ((0 : Int32).toInt = 0 ∧ 0 < (E (vs i)).1 ∧ x10.toInt - (f6 x11.toInt.toNat).toInt + (E (vs i)).1 ≤ 24 ∧ CU P ks vs (i + 1) y5_7 y7_7 y8_7 ∧ z_13.toInt = x10.toInt + (E (vs i)).1 ∧ (∀ i9 : Int, 0 ≤ i9 → i9 < 6 * x10.toInt → ga i9.toNat = f3 i9.toNat) ∧ RSo ga (6 * x10.toInt) (E (vs i)).2 (E (vs i)).1) ∨ ((0 : Int32).toInt ≠ 0 ∧ ((E (vs i)).1 ≤ 0 ∨ 24 < x10.toInt - (f6 x11.toInt.toNat).toInt + (E (vs i)).1)) from (Or.inl ⟨by omega, by omega, by omega, hcu_7, by omega, hga, fun c9 h8 h9 => by
                  rw [hgs _ (by omega) (by omega)]
                  have q9 := hEb c9 h8 h9
                  exact q9⟩)⟩) hP hD hQ (Nat.le_of_ble_eq_true rfl) (Nat.le_of_ble_eq_true rfl) dX11_letter_180
              · refine lv_aload_n hx hb dX11_letter_111 rfl (lv_at hl 0 rfl) ?_
                refine va_get (D := D) (ci := 11) (v := .ref (q 3)) (C := RX11) (T := TX11) (N := 47) hx hb hts (by decide +kernel) hown hK.1 hP 0 rfl rfl 14 (by decide) (hts (.fieldLink RX11 27 "JugglingHallModel" "work" "[I") (by decide +kernel)) (fun _ h9 => h9) rfl dX11_letter_112 ?_
                refine lv_bipush (v := 6) hx hb dX11_letter_115 (by decide) ?_
                refine lv_aload_n hx hb dX11_letter_117 rfl (lv_at hl 0 rfl) ?_
                refine va_get (D := D) (ci := 11) (v := .int x10) (C := RX11) (T := TX11) (N := 47) hx hb hts (by decide +kernel) hown hK.1 hP 0 rfl rfl 19 (by decide) (hts (.fieldLink RX11 151 "JugglingHallModel" "top" "I") (by decide +kernel)) (fun _ h9 => h9) rfl dX11_letter_118 ?_
                refine a_imul (u := 6) (v := x10.toInt) hx hb dX11_letter_121 (by decide) (rfl) (by omega) (fun z_15 e_15 => ?_)
                refine lv_iload hx hb dX11_letter_122 (lv_at hl 5 rfl) ?_
                refine a_iadd (u := (6 * x10.toInt)) (v := k.toInt) hx hb dX11_letter_124 (e_15) (rfl) (by omega) (fun z_16 e_16 => ?_)
                refine lv_aload_n hx hb dX11_letter_125 rfl (lv_at hl 0 rfl) ?_
                refine va_get (D := D) (ci := 11) (v := .ref (q 8)) (C := RX11) (T := TX11) (N := 47) hx hb hts (by decide +kernel) hown hK.1 hP 0 rfl rfl 22 (by decide) (hts (.fieldLink RX11 42 "JugglingHallModel" "freshMany" "[I") (by decide +kernel)) (fun _ h9 => h9) rfl dX11_letter_126 ?_
                refine lv_iload_n hx hb dX11_letter_129 rfl (lv_at hl 1 rfl) ?_
                refine a_iald (f := f8) (u := x8.toInt) hx hb hK.1 hP 9 0 rfl rfl dX11_letter_130 (rfl) (by omega) (fun z_17 q_17 e_17 => ?_)
                refine a_if_le (u := z_17.toInt) (tgt := 150) hx hb dX11_letter_131 (by decide) (rfl) (fun c_18 => ?_) (fun c_18 => absurd c_18 (by omega))
                refine lv_aload_n hx hb dX11_letter_150 rfl (lv_at hl 0 rfl) ?_
                refine va_get (D := D) (ci := 11) (v := .ref (q 0)) (C := RX11) (T := TX11) (N := 47) hx hb hts (by decide +kernel) hown hK.1 hP 0 rfl rfl 1 (by decide) (hts (.fieldLink RX11 8 "JugglingHallModel" "rows" "[I") (by decide +kernel)) (fun _ h9 => h9) rfl dX11_letter_151 ?_
                refine lv_iload_n hx hb dX11_letter_154 rfl (lv_at hl 3 rfl) ?_
                refine lv_iconst (v := 1) hx hb dX11_letter_155 (by decide) ?_
                refine a_iadd (u := r_1.toInt) (v := 1) hx hb dX11_letter_156 (rfl) (by decide) (by omega) (fun z_19 e_19 => ?_)
                refine lv_iload hx hb dX11_letter_157 (lv_at hl 5 rfl) ?_
                refine a_iadd (u := (r_1.toInt + 1)) (v := k.toInt) hx hb dX11_letter_159 (e_19) (rfl) (by omega) (fun z_20 e_20 => ?_)
                refine a_iald (f := f0) (u := ((r_1.toInt + 1) + k.toInt)) hx hb hK.1 hP 1 0 rfl rfl dX11_letter_160 (e_20) (by omega) (fun z_21 q_21 e_21 => ?_)
                refine ma_3 (u := ((6 * x10.toInt) + k.toInt)) hx hb hK hP hD hS dX11_letter_161 (e_16) (by omega) (fun g_22 H locs eg_22 hP hD hS => ?_)
                obtain ⟨z_23, q_23, e_23⟩ := i_inc (a := k.toInt) (1) (rfl) (by decide) (by omega) (by omega)
                refine lv_iinc (v := z_23) (lv' := [(5, .int z_23), (0, .ref mm), (1, .int x8), (2, .int x6), (3, .int r_1), (4, .int z_5)]) hx hb dX11_letter_162 hl (k := 5) rfl q_23 (by decide) rfl (fun ls hl => ?_)
                refine lv_goto (tgt := 101) hx hb dX11_letter_165 (by decide) ?_
                exact ih101 z_23 g_22 _ _ _ (by omega) (by first | assumption | omega) (fun i i0 i1 => by rw [eg_22, un_i i0 (by omega) (by omega)]; exact hga i i0 i1) (fun i i0 i1 => by
                  by_cases q : i = k.toInt
                  · rw [eg_22, q, show 6 * x10.toInt + k.toInt = ((6 * x10.toInt) + k.toInt) by omega, pk_us, q_21, show ((r_1.toInt + 1) + k.toInt) = (r_1.toInt + 1) + k.toInt by omega]
                  · rw [eg_22, un_i (by omega) (by omega) (by omega)]; exact hgs i i0 (by omega)) hP hD hS (lv_sub hl [1, 2, 3, 4, 5, 0] rfl)
          have hz_24 : (0 : Int32).toInt = 0 := by decide
          exact loop101 ((6 * z_5.toInt - (0 : Int32).toInt).toNat + 1) (0 : Int32) f3 _ _ _ (by omega) (by first | assumption | omega) (fun _ _ _ => rfl) (fun i i0 i1 => absurd i1 (by omega)) hP hD hS (lv_sub hl [5, 4, 3, 2, 1, 0] rfl)
        · refine lv_aload_n hx hb dX11_letter_91 rfl (lv_at hl 4 rfl) ?_
          refine lv_iconst (v := 4) hx hb dX11_letter_92 (by decide) ?_
          refine lv_iload_n hx hb dX11_letter_93 rfl (lv_at hl 2 rfl) ?_
          have hz_25 : (4 : Int32).toInt = 4 := by decide
          refine call_g (wr := []) (va_runV (As := [.int 4, .int x6]) (rest := []) ⟨hx, hb, hml, hown, hts⟩ (k_fails l D cI cR cM _  ) (cwV 2 hts gX11_letter_X11_fails rfl rfl rfl (by decide +kernel) ⟨Nat.le_of_ble_eq_true rfl, Nat.le_of_ble_eq_true rfl⟩) (pre_V hK hP hD 0 11 rfl rfl) rfl rfl hl.1 rfl (lv_room (Nat.le_of_ble_eq_true rfl)) dX11_letter_94 ⟨Nat.le_of_ble_eq_true rfl, Nat.le_of_ble_eq_true rfl⟩) hP hD hS hA [0, 1, 2, 3, 4, 5, 6, 7, 8, 9, 10, 11, 12, 13, 14, 15, 16, 17, 18, 19, 20, 21, 22, 23, 24, 25] [] (by with_unfolding_all rfl) rfl (by decide) (by decide) (fun u_26 H locs hw hP hD hS => ?_)
          obtain ⟨r_26, y9_26⟩ := u_26
          have hP : va_P D vwCl (mX mm q jn cI x0 x1 x2 x3 x4 y5_7 y6_7 y7_7 y8_7 y9_26 x10 x11 x10 x13 x14 x15 x16 x17 x18 x19 x20 f0 f1 f2 f3 f4 f5 f6 f7 f8 f9 f10 f11 f12 f13 f14 f15 f16 f17 f18 f19 f20 f21 f22 f23 f24) H := hP
          have hD : va_D A (mX mm q jn cI x0 x1 x2 x3 x4 y5_7 y6_7 y7_7 y8_7 y9_26 x10 x11 x10 x13 x14 x15 x16 x17 x18 x19 x20 f0 f1 f2 f3 f4 f5 f6 f7 f8 f9 f10 f11 f12 f13 f14 f15 f16 f17 f18 f19 f20 f21 f22 f23 f24) := hD
          have hr_26 : (r_26.toInt = (4 : Int32).toInt) := hw
          exact g_iret (r_26, y5_7, y6_7, y7_7, y8_7, y9_26, x10, x10, f3) hx hb hr hlocks hS rfl (⟨show x5.toInt ≤ y5_7.toInt ∧ y5_7.toInt ≤ x2.toInt from (by first | assumption | omega), show TokOK y7_7 y8_7 from (by first | assumption | omega), show r_26.toInt = 0 → x5.toInt < y5_7.toInt ∨ y7_7.toInt = 0 from (by first | assumption | omega), show r_26.toInt = 0 → x10.toInt ≤ x10.toInt ∧ x10.toInt = x10.toInt from (by first | assumption | omega), show r_26.toInt = 0 → x10.toInt - (f6 x11.toInt.toNat).toInt ≤ 24 from (by first | assumption | omega), show r_26.toInt = 0 → CellsX jn f3 0 (6 * x10.toInt) from (fun q => absurd q (by omega)), show r_26.toInt = 0 → ZX jn f3 0 x10.toInt from (fun q => absurd q (by omega)), show (r_26.toInt = 0 ∧ 0 < (E (vs i)).1 ∧ x10.toInt - (f6 x11.toInt.toNat).toInt + (E (vs i)).1 ≤ 24 ∧ CU P ks vs (i + 1) y5_7 y7_7 y8_7 ∧ x10.toInt = x10.toInt + (E (vs i)).1 ∧ (∀ i9 : Int, 0 ≤ i9 → i9 < 6 * x10.toInt → f3 i9.toNat = f3 i9.toNat) ∧ RSo f3 (6 * x10.toInt) (E (vs i)).2 (E (vs i)).1) ∨ (r_26.toInt ≠ 0 ∧ ((E (vs i)).1 ≤ 0 ∨ 24 < x10.toInt - (f6 x11.toInt.toNat).toInt + (E (vs i)).1)) from (Or.inr ⟨by omega, Or.inr (by omega)⟩)⟩) hP hD hQ (Nat.le_of_ble_eq_true rfl) (Nat.le_of_ble_eq_true rfl) dX11_letter_97
      · refine lv_aload_n hx hb dX11_letter_59 rfl (lv_at hl 4 rfl) ?_
        refine lv_bipush (v := 6) hx hb dX11_letter_60 (by decide) ?_
        refine lv_iload_n hx hb dX11_letter_62 rfl (lv_at hl 2 rfl) ?_
        have hz_27 : (6 : Int32).toInt = 6 := by decide
        refine call_g (wr := []) (va_runV (As := [.int 6, .int x6]) (rest := []) ⟨hx, hb, hml, hown, hts⟩ (k_fails l D cI cR cM _  ) (cwV 2 hts gX11_letter_X11_fails rfl rfl rfl (by decide +kernel) ⟨Nat.le_of_ble_eq_true rfl, Nat.le_of_ble_eq_true rfl⟩) (pre_V hK hP hD 0 11 rfl rfl) rfl rfl hl.1 rfl (lv_room (Nat.le_of_ble_eq_true rfl)) dX11_letter_63 ⟨Nat.le_of_ble_eq_true rfl, Nat.le_of_ble_eq_true rfl⟩) hP hD hS hA [0, 1, 2, 3, 4, 5, 6, 7, 8, 9, 10, 11, 12, 13, 14, 15, 16, 17, 18, 19, 20, 21, 22, 23, 24, 25] [] (by with_unfolding_all rfl) rfl (by decide) (by decide) (fun u_28 H locs hw hP hD hS => ?_)
        obtain ⟨r_28, y9_28⟩ := u_28
        have hP : va_P D vwCl (mX mm q jn cI x0 x1 x2 x3 x4 x5 x6 x7 x8 y9_28 x10 x11 x12 x13 x14 x15 x16 x17 x18 x19 x20 f0 f1 f2 f3 f4 f5 f6 f7 f8 f9 f10 f11 f12 f13 f14 f15 f16 f17 f18 f19 f20 f21 f22 f23 f24) H := hP
        have hD : va_D A (mX mm q jn cI x0 x1 x2 x3 x4 x5 x6 x7 x8 y9_28 x10 x11 x12 x13 x14 x15 x16 x17 x18 x19 x20 f0 f1 f2 f3 f4 f5 f6 f7 f8 f9 f10 f11 f12 f13 f14 f15 f16 f17 f18 f19 f20 f21 f22 f23 f24) := hD
        have hr_28 : (r_28.toInt = (6 : Int32).toInt) := hw
        exact g_iret (r_28, x5, x6, x7, x8, y9_28, x10, x12, f3) hx hb hr hlocks hS rfl (⟨show x5.toInt ≤ x5.toInt ∧ x5.toInt ≤ x2.toInt from (by first | assumption | omega), show TokOK x7 x8 from (by first | assumption | omega), show r_28.toInt = 0 → x5.toInt < x5.toInt ∨ x7.toInt = 0 from (by first | assumption | omega), show r_28.toInt = 0 → x10.toInt ≤ x10.toInt ∧ x12.toInt = x10.toInt from (by first | assumption | omega), show r_28.toInt = 0 → x10.toInt - (f6 x11.toInt.toNat).toInt ≤ 24 from (by first | assumption | omega), show r_28.toInt = 0 → CellsX jn f3 0 (6 * x10.toInt) from (fun q => absurd q (by omega)), show r_28.toInt = 0 → ZX jn f3 0 x10.toInt from (fun q => absurd q (by omega)), show (r_28.toInt = 0 ∧ 0 < (E (vs i)).1 ∧ x10.toInt - (f6 x11.toInt.toNat).toInt + (E (vs i)).1 ≤ 24 ∧ CU P ks vs (i + 1) x5 x7 x8 ∧ x10.toInt = x10.toInt + (E (vs i)).1 ∧ (∀ i9 : Int, 0 ≤ i9 → i9 < 6 * x10.toInt → f3 i9.toNat = f3 i9.toNat) ∧ RSo f3 (6 * x10.toInt) (E (vs i)).2 (E (vs i)).1) ∨ (r_28.toInt ≠ 0 ∧ ((E (vs i)).1 ≤ 0 ∨ 24 < x10.toInt - (f6 x11.toInt.toNat).toInt + (E (vs i)).1)) from (Or.inr ⟨by omega, Or.inl (by omega)⟩)⟩) hP hD hQ (Nat.le_of_ble_eq_true rfl) (Nat.le_of_ble_eq_true rfl) dX11_letter_66
    · have hLv := hL_1
      have hEz := (hE2 (by omega) _ hLv).1 (LatV_m hLv (by omega) (by omega))
      refine lv_iconst (v := 0) hx hb dX11_letter_42 (by decide) ?_
      refine lv_goto (tgt := 52) hx hb dX11_letter_43 (by decide) ?_
      refine lv_istore (lv' := [(4, .int 0), (3, .int r_1), (2, .int x6), (1, .int x8), (0, .ref mm)]) hx hb dX11_letter_52 hl (by decide) rfl (fun ls hl => ?_)
      refine lv_iload hx hb dX11_letter_54 (lv_at hl 0 rfl) ?_
      refine a_if_ne (u := 0) (tgt := 67) hx hb dX11_letter_56 (by decide) (by decide) (fun c_29 => absurd c_29 (by omega)) (fun c_29 => ?_)
      refine lv_aload_n hx hb dX11_letter_59 rfl (lv_at hl 4 rfl) ?_
      refine lv_bipush (v := 6) hx hb dX11_letter_60 (by decide) ?_
      refine lv_iload_n hx hb dX11_letter_62 rfl (lv_at hl 2 rfl) ?_
      have hz_30 : (6 : Int32).toInt = 6 := by decide
      refine call_g (wr := []) (va_runV (As := [.int 6, .int x6]) (rest := []) ⟨hx, hb, hml, hown, hts⟩ (k_fails l D cI cR cM _  ) (cwV 2 hts gX11_letter_X11_fails rfl rfl rfl (by decide +kernel) ⟨Nat.le_of_ble_eq_true rfl, Nat.le_of_ble_eq_true rfl⟩) (pre_V hK hP hD 0 11 rfl rfl) rfl rfl hl.1 rfl (lv_room (Nat.le_of_ble_eq_true rfl)) dX11_letter_63 ⟨Nat.le_of_ble_eq_true rfl, Nat.le_of_ble_eq_true rfl⟩) hP hD hS hA [0, 1, 2, 3, 4, 5, 6, 7, 8, 9, 10, 11, 12, 13, 14, 15, 16, 17, 18, 19, 20, 21, 22, 23, 24, 25] [] (by with_unfolding_all rfl) rfl (by decide) (by decide) (fun u_31 H locs hw hP hD hS => ?_)
      obtain ⟨r_31, y9_31⟩ := u_31
      have hP : va_P D vwCl (mX mm q jn cI x0 x1 x2 x3 x4 x5 x6 x7 x8 y9_31 x10 x11 x12 x13 x14 x15 x16 x17 x18 x19 x20 f0 f1 f2 f3 f4 f5 f6 f7 f8 f9 f10 f11 f12 f13 f14 f15 f16 f17 f18 f19 f20 f21 f22 f23 f24) H := hP
      have hD : va_D A (mX mm q jn cI x0 x1 x2 x3 x4 x5 x6 x7 x8 y9_31 x10 x11 x12 x13 x14 x15 x16 x17 x18 x19 x20 f0 f1 f2 f3 f4 f5 f6 f7 f8 f9 f10 f11 f12 f13 f14 f15 f16 f17 f18 f19 f20 f21 f22 f23 f24) := hD
      have hr_31 : (r_31.toInt = (6 : Int32).toInt) := hw
      exact g_iret (r_31, x5, x6, x7, x8, y9_31, x10, x12, f3) hx hb hr hlocks hS rfl (⟨show x5.toInt ≤ x5.toInt ∧ x5.toInt ≤ x2.toInt from (by first | assumption | omega), show TokOK x7 x8 from (by first | assumption | omega), show r_31.toInt = 0 → x5.toInt < x5.toInt ∨ x7.toInt = 0 from (by first | assumption | omega), show r_31.toInt = 0 → x10.toInt ≤ x10.toInt ∧ x12.toInt = x10.toInt from (by first | assumption | omega), show r_31.toInt = 0 → x10.toInt - (f6 x11.toInt.toNat).toInt ≤ 24 from (by first | assumption | omega), show r_31.toInt = 0 → CellsX jn f3 0 (6 * x10.toInt) from (fun q => absurd q (by omega)), show r_31.toInt = 0 → ZX jn f3 0 x10.toInt from (fun q => absurd q (by omega)), show (r_31.toInt = 0 ∧ 0 < (E (vs i)).1 ∧ x10.toInt - (f6 x11.toInt.toNat).toInt + (E (vs i)).1 ≤ 24 ∧ CU P ks vs (i + 1) x5 x7 x8 ∧ x10.toInt = x10.toInt + (E (vs i)).1 ∧ (∀ i9 : Int, 0 ≤ i9 → i9 < 6 * x10.toInt → f3 i9.toNat = f3 i9.toNat) ∧ RSo f3 (6 * x10.toInt) (E (vs i)).2 (E (vs i)).1) ∨ (r_31.toInt ≠ 0 ∧ ((E (vs i)).1 ≤ 0 ∨ 24 < x10.toInt - (f6 x11.toInt.toNat).toInt + (E (vs i)).1)) from (Or.inr ⟨by omega, Or.inl (by omega)⟩)⟩) hP hD hQ (Nat.le_of_ble_eq_true rfl) (Nat.le_of_ble_eq_true rfl) dX11_letter_66
  · have hEn := hE1 (by omega)
    obtain ⟨hEa, hEb⟩ := hEn
    refine lv_aload_n hx hb dX11_letter_29 rfl (lv_at hl 3 rfl) ?_
    refine va_get (D := D) (ci := 11) (v := .ref (q 8)) (C := RX11) (T := TX11) (N := 47) hx hb hts (by decide +kernel) hown hK.1 hP 0 rfl rfl 22 (by decide) (hts (.fieldLink RX11 42 "JugglingHallModel" "freshMany" "[I") (by decide +kernel)) (fun _ h9 => h9) rfl dX11_letter_30 ?_
    refine lv_iload_n hx hb dX11_letter_33 rfl (lv_at hl 2 rfl) ?_
    refine a_iald (f := f8) (u := x8.toInt) hx hb hK.1 hP 9 0 rfl rfl dX11_letter_34 (rfl) (by omega) (fun z_32 q_32 e_32 => ?_)
    refine lv_goto (tgt := 52) hx hb dX11_letter_35 (by decide) ?_
    refine lv_istore (lv' := [(4, .int z_32), (3, .int r_1), (2, .int x6), (1, .int x8), (0, .ref mm)]) hx hb dX11_letter_52 hl (by decide) rfl (fun ls hl => ?_)
    refine lv_iload hx hb dX11_letter_54 (lv_at hl 0 rfl) ?_
    refine a_if_ne (u := z_32.toInt) (tgt := 67) hx hb dX11_letter_56 (by decide) (rfl) (fun c_33 => ?_) (fun c_33 => ?_)
    · refine lv_aload_n hx hb dX11_letter_67 rfl (lv_at hl 4 rfl) ?_
      refine call_g (wr := []) (va_runV (As := []) (rest := []) ⟨hx, hb, hml, hown, hts⟩ (k_next2 l D cI cR cM _  (by first | assumption | omega) (by first | assumption | omega)) (cwV 0 hts gX11_letter_X11_nextToken rfl rfl rfl (by decide +kernel) ⟨Nat.le_of_ble_eq_true rfl, Nat.le_of_ble_eq_true rfl⟩) (pre_V hK hP hD 0 11 rfl rfl) rfl rfl hl.1 rfl (lv_room (Nat.le_of_ble_eq_true rfl)) dX11_letter_68 ⟨Nat.le_of_ble_eq_true rfl, Nat.le_of_ble_eq_true rfl⟩) hP hD hS hA [0, 1, 2, 3, 4, 5, 6, 7, 8, 9, 10, 11, 12, 13, 14, 15, 16, 17, 18, 19, 20, 21, 22, 23, 24, 25] [] (by with_unfolding_all rfl) rfl (by decide) (by decide) (fun u_34 H locs hw hP hD hS => ?_)
      obtain ⟨y5_34, y6_34, y7_34, y8_34⟩ := u_34
      have hP : va_P D vwCl (mX mm q jn cI x0 x1 x2 x3 x4 y5_34 y6_34 y7_34 y8_34 x9 x10 x11 x12 x13 x14 x15 x16 x17 x18 x19 x20 f0 f1 f2 f3 f4 f5 f6 f7 f8 f9 f10 f11 f12 f13 f14 f15 f16 f17 f18 f19 f20 f21 f22 f23 f24) H := hP
      have hD : va_D A (mX mm q jn cI x0 x1 x2 x3 x4 y5_34 y6_34 y7_34 y8_34 x9 x10 x11 x12 x13 x14 x15 x16 x17 x18 x19 x20 f0 f1 f2 f3 f4 f5 f6 f7 f8 f9 f10 f11 f12 f13 f14 f15 f16 f17 f18 f19 f20 f21 f22 f23 f24) := hD
      obtain ⟨ha_34, hp_34, hk_34, hT_34, hR_34⟩ : (x5.toInt ≤ y5_34.toInt ∧ y5_34.toInt ≤ x2.toInt) ∧ (0 ≤ y6_34.toInt ∧ y6_34.toInt ≤ 300) ∧ (y7_34.toInt = 0 ∨ x5.toInt < y5_34.toInt) ∧ (TokOK y7_34 y8_34) ∧ (∃ v9 : Int, TkR (sE f2 x2.toInt) x5.toInt y7_34.toInt v9 y6_34.toInt y5_34.toInt ∧ (y7_34.toInt = 1 ∨ y7_34.toInt = 2 → y8_34.toInt = v9)) := hw
      obtain ⟨v9_34, q1_34, q2_34⟩ := hR_34
      have hcu_34 : CU P ks vs (i + 1) y5_34 y7_34 y8_34 := CU_n hSM hCU.1 q1_34 q2_34
      have hcv_34 := hcu_34
      obtain ⟨u1_34, u2_34, u3_34⟩ := hcv_34
      refine lv_aload_n hx hb dX11_letter_71 rfl (lv_at hl 4 rfl) ?_
      refine lv_aload_n hx hb dX11_letter_72 rfl (lv_at hl 4 rfl) ?_
      refine va_get (D := D) (ci := 11) (v := .int x10) (C := RX11) (T := TX11) (N := 47) hx hb hts (by decide +kernel) hown hK.1 hP 0 rfl rfl 19 (by decide) (hts (.fieldLink RX11 151 "JugglingHallModel" "top" "I") (by decide +kernel)) (fun _ h9 => h9) rfl dX11_letter_73 ?_
      refine mp_12 hx hb hts (by decide +kernel) hown hK hP hD hS (hts (.fieldLink RX11 176 "JugglingHallModel" "oneStart" "I") (by decide +kernel)) dX11_letter_76 (fun H locs hP hD hS => ?_)
      refine lv_aload_n hx hb dX11_letter_79 rfl (lv_at hl 4 rfl) ?_
      refine roP (va_runV (As := []) (rest := []) ⟨hx, hb, hml, hown, hts⟩ (k_many l D cI cR cM _  (by first | assumption | omega) (by first | assumption | omega) (by first | assumption | omega)) (cwV 0 hts gX11_letter_X11_many rfl rfl rfl (by decide +kernel) ⟨Nat.le_of_ble_eq_true rfl, Nat.le_of_ble_eq_true rfl⟩) (pre_V hK hP hD 0 11 rfl rfl) rfl rfl hl.1 rfl (lv_room (Nat.le_of_ble_eq_true rfl)) dX11_letter_80 ⟨Nat.le_of_ble_eq_true rfl, Nat.le_of_ble_eq_true rfl⟩) hS hA hP (fun r_35 H locs hw hP hS => ?_)
      have h_35 : (r_35.toInt = x10.toInt - (f6 x11.toInt.toNat).toInt) := hw
      refine lv_iload hx hb dX11_letter_83 (lv_at hl 0 rfl) ?_
      refine a_iadd (u := r_35.toInt) (v := z_32.toInt) hx hb dX11_letter_85 (rfl) (rfl) (by omega) (fun z_36 e_36 => ?_)
      refine lv_bipush (v := 24) hx hb dX11_letter_86 (by decide) ?_
      refine a_icmp_le (u := (r_35.toInt + z_32.toInt)) (v := 24) (tgt := 98) hx hb dX11_letter_88 (by decide) (e_36) (by decide) (fun c_37 => ?_) (fun c_37 => ?_)
      · refine lv_iconst (v := 0) hx hb dX11_letter_98 (by decide) ?_
        refine lv_istore (lv' := [(5, .int 0), (4, .int z_32), (3, .int r_1), (2, .int x6), (1, .int x8), (0, .ref mm)]) hx hb dX11_letter_99 hl (by decide) rfl (fun ls hl => ?_)
        have loop101 : ∀ (ddloop101 : Nat) (k : Int32) (ga : (Nat → Int32)) (H : Heap) (locs : List Loc) (ls : Array Slot), (6 * z_32.toInt - k.toInt).toNat < ddloop101 → (0 ≤ k.toInt ∧ k.toInt ≤ 6 * z_32.toInt) → (∀ i : Int, 0 ≤ i → i < 6 * x10.toInt → ga i.toNat = f3 i.toNat) → (∀ i : Int, 0 ≤ i → i < k.toInt → ga (6 * x10.toInt + i).toNat = f9 ((144 * x8.toInt) + i).toNat) → va_P D vwCl (mX mm q jn cI x0 x1 x2 x3 x4 y5_34 y6_34 y7_34 y8_34 x9 x10 x11 x10 x13 x14 x15 x16 x17 x18 x19 x20 f0 f1 f2 ga f4 f5 f6 f7 f8 f9 f10 f11 f12 f13 f14 f15 f16 f17 f18 f19 f20 f21 f22 f23 f24) H → va_D A (mX mm q jn cI x0 x1 x2 x3 x4 y5_34 y6_34 y7_34 y8_34 x9 x10 x11 x10 x13 x14 x15 x16 x17 x18 x19 x20 f0 f1 f2 ga f4 f5 f6 f7 f8 f9 f10 f11 f12 f13 f14 f15 f16 f17 f18 f19 f20 f21 f22 f23 f24) → va_S A s.heap H locs → lv_has ls 6 [(0, .ref mm), (1, .int x8), (2, .int x6), (3, .int r_1), (4, .int z_32), (5, .int k)] → W p l e ({ frames := 4, cells := 0, slots := 0, locals := 88 }) s m args below meth c H locs 0 0 Q (F0 m 101 ls []) := by
          intro ddloop101
          induction ddloop101 with
          | zero =>
            intro k ga H locs ls hdd
            exact absurd hdd (Nat.not_lt_zero _)
          | succ ddloop101 ih101 =>
            intro k ga H locs ls hdd hk hga hgs hP hD hS hl
            refine lv_iload hx hb dX11_letter_101 (lv_at hl 5 rfl) ?_
            refine lv_bipush (v := 6) hx hb dX11_letter_103 (by decide) ?_
            refine lv_iload hx hb dX11_letter_105 (lv_at hl 4 rfl) ?_
            refine a_imul (u := 6) (v := z_32.toInt) hx hb dX11_letter_107 (by decide) (rfl) (by omega) (fun z_38 e_38 => ?_)
            refine a_icmp_ge (u := k.toInt) (v := (6 * z_32.toInt)) (tgt := 168) hx hb dX11_letter_108 (by decide) (rfl) (e_38) (fun c_39 => ?_) (fun c_39 => ?_)
            · have hCn : CellsX jn ga 0 (6 * (x10.toInt + z_32.toInt)) := cx_app (src := f9) (lo := (144 * x8.toInt)) hC (by have hq9 := hfr3; first | exact hq9 | (rw [show (144 * x8.toInt) + 6 * z_32.toInt = 144 * x8.toInt + 6 * (f8 x8.toInt.toNat).toInt by omega]; exact hq9)) (by omega) (by omega) hga (fun i i0 i1 => hgs i i0 (by omega))
              have hZn : ZX jn ga 0 (x10.toInt + z_32.toInt) := zx_app (src := f9) (lo := (144 * x8.toInt)) hZ0 (by have hq9 := hfz; first | exact hq9 | (rw [show z_32.toInt = (f8 x8.toInt.toNat).toInt by omega]; exact hq9)) (by omega) hga (fun i i0 i1 => hgs i i0 (by omega))
              refine lv_aload_n hx hb dX11_letter_168 rfl (lv_at hl 0 rfl) ?_
              refine lv_dup hx hb dX11_letter_169 rfl ?_
              refine va_get (D := D) (ci := 11) (v := .int x10) (C := RX11) (T := TX11) (N := 47) hx hb hts (by decide +kernel) hown hK.1 hP 0 rfl rfl 19 (by decide) (hts (.fieldLink RX11 151 "JugglingHallModel" "top" "I") (by decide +kernel)) (fun _ h9 => h9) rfl dX11_letter_170 ?_
              refine lv_iload hx hb dX11_letter_173 (lv_at hl 4 rfl) ?_
              refine a_iadd (u := x10.toInt) (v := z_32.toInt) hx hb dX11_letter_175 (rfl) (rfl) (by omega) (fun z_40 e_40 => ?_)
              refine mp_10 hx hb hts (by decide +kernel) hown hK hP hD hS (hts (.fieldLink RX11 151 "JugglingHallModel" "top" "I") (by decide +kernel)) dX11_letter_176 (fun H locs hP hD hS => ?_)
              refine lv_iconst (v := 0) hx hb dX11_letter_179 (by decide) ?_
              have hz_41 : (0 : Int32).toInt = 0 := by decide
              exact g_iret ((0 : Int32), y5_34, y6_34, y7_34, y8_34, x9, z_40, x10, ga) hx hb hr hlocks hS rfl (⟨show x5.toInt ≤ y5_34.toInt ∧ y5_34.toInt ≤ x2.toInt from (by first | assumption | omega), show TokOK y7_34 y8_34 from (by first | assumption | omega), show (0 : Int32).toInt = 0 → x5.toInt < y5_34.toInt ∨ y7_34.toInt = 0 from (by first | assumption | omega), show (0 : Int32).toInt = 0 → x10.toInt ≤ z_40.toInt ∧ x10.toInt = x10.toInt from (by first | assumption | omega), show (0 : Int32).toInt = 0 → z_40.toInt - (f6 x11.toInt.toNat).toInt ≤ 24 from (by first | assumption | omega), show (0 : Int32).toInt = 0 → CellsX jn ga 0 (6 * z_40.toInt) from (fun _ => by rw [show 6 * z_40.toInt = 6 * (x10.toInt + z_32.toInt) by omega]; exact hCn), show (0 : Int32).toInt = 0 → ZX jn ga 0 z_40.toInt from (fun _ => by rw [show z_40.toInt = x10.toInt + z_32.toInt by omega]; exact hZn), show ((0 : Int32).toInt = 0 ∧ 0 < (E (vs i)).1 ∧ x10.toInt - (f6 x11.toInt.toNat).toInt + (E (vs i)).1 ≤ 24 ∧ CU P ks vs (i + 1) y5_34 y7_34 y8_34 ∧ z_40.toInt = x10.toInt + (E (vs i)).1 ∧ (∀ i9 : Int, 0 ≤ i9 → i9 < 6 * x10.toInt → ga i9.toNat = f3 i9.toNat) ∧ RSo ga (6 * x10.toInt) (E (vs i)).2 (E (vs i)).1) ∨ ((0 : Int32).toInt ≠ 0 ∧ ((E (vs i)).1 ≤ 0 ∨ 24 < x10.toInt - (f6 x11.toInt.toNat).toInt + (E (vs i)).1)) from (Or.inl ⟨by omega, by omega, by omega, hcu_34, by omega, hga, fun c9 h8 h9 => by
                rw [hgs _ (by omega) (by omega)]
                have q9 := hEb c9 h8 h9
                exact q9⟩)⟩) hP hD hQ (Nat.le_of_ble_eq_true rfl) (Nat.le_of_ble_eq_true rfl) dX11_letter_180
            · refine lv_aload_n hx hb dX11_letter_111 rfl (lv_at hl 0 rfl) ?_
              refine va_get (D := D) (ci := 11) (v := .ref (q 3)) (C := RX11) (T := TX11) (N := 47) hx hb hts (by decide +kernel) hown hK.1 hP 0 rfl rfl 14 (by decide) (hts (.fieldLink RX11 27 "JugglingHallModel" "work" "[I") (by decide +kernel)) (fun _ h9 => h9) rfl dX11_letter_112 ?_
              refine lv_bipush (v := 6) hx hb dX11_letter_115 (by decide) ?_
              refine lv_aload_n hx hb dX11_letter_117 rfl (lv_at hl 0 rfl) ?_
              refine va_get (D := D) (ci := 11) (v := .int x10) (C := RX11) (T := TX11) (N := 47) hx hb hts (by decide +kernel) hown hK.1 hP 0 rfl rfl 19 (by decide) (hts (.fieldLink RX11 151 "JugglingHallModel" "top" "I") (by decide +kernel)) (fun _ h9 => h9) rfl dX11_letter_118 ?_
              refine a_imul (u := 6) (v := x10.toInt) hx hb dX11_letter_121 (by decide) (rfl) (by omega) (fun z_42 e_42 => ?_)
              refine lv_iload hx hb dX11_letter_122 (lv_at hl 5 rfl) ?_
              refine a_iadd (u := (6 * x10.toInt)) (v := k.toInt) hx hb dX11_letter_124 (e_42) (rfl) (by omega) (fun z_43 e_43 => ?_)
              refine lv_aload_n hx hb dX11_letter_125 rfl (lv_at hl 0 rfl) ?_
              refine va_get (D := D) (ci := 11) (v := .ref (q 8)) (C := RX11) (T := TX11) (N := 47) hx hb hts (by decide +kernel) hown hK.1 hP 0 rfl rfl 22 (by decide) (hts (.fieldLink RX11 42 "JugglingHallModel" "freshMany" "[I") (by decide +kernel)) (fun _ h9 => h9) rfl dX11_letter_126 ?_
              refine lv_iload_n hx hb dX11_letter_129 rfl (lv_at hl 1 rfl) ?_
              refine a_iald (f := f8) (u := x8.toInt) hx hb hK.1 hP 9 0 rfl rfl dX11_letter_130 (rfl) (by omega) (fun z_44 q_44 e_44 => ?_)
              refine a_if_le (u := z_44.toInt) (tgt := 150) hx hb dX11_letter_131 (by decide) (rfl) (fun c_45 => absurd c_45 (by omega)) (fun c_45 => ?_)
              refine lv_aload_n hx hb dX11_letter_134 rfl (lv_at hl 0 rfl) ?_
              refine va_get (D := D) (ci := 11) (v := .ref (q 9)) (C := RX11) (T := TX11) (N := 47) hx hb hts (by decide +kernel) hown hK.1 hP 0 rfl rfl 23 (by decide) (hts (.fieldLink RX11 45 "JugglingHallModel" "fresh" "[I") (by decide +kernel)) (fun _ h9 => h9) rfl dX11_letter_135 ?_
              refine lv_sipush (v := 144) hx hb dX11_letter_138 (by decide) ?_
              refine lv_iload_n hx hb dX11_letter_141 rfl (lv_at hl 1 rfl) ?_
              refine a_imul (u := 144) (v := x8.toInt) hx hb dX11_letter_142 (by decide) (rfl) (by omega) (fun z_46 e_46 => ?_)
              refine lv_iload hx hb dX11_letter_143 (lv_at hl 5 rfl) ?_
              refine a_iadd (u := (144 * x8.toInt)) (v := k.toInt) hx hb dX11_letter_145 (e_46) (rfl) (by omega) (fun z_47 e_47 => ?_)
              refine a_iald (f := f9) (u := ((144 * x8.toInt) + k.toInt)) hx hb hK.1 hP 10 0 rfl rfl dX11_letter_146 (e_47) (by omega) (fun z_48 q_48 e_48 => ?_)
              refine lv_goto (tgt := 161) hx hb dX11_letter_147 (by decide) ?_
              refine ma_3 (u := ((6 * x10.toInt) + k.toInt)) hx hb hK hP hD hS dX11_letter_161 (e_43) (by omega) (fun g_49 H locs eg_49 hP hD hS => ?_)
              obtain ⟨z_50, q_50, e_50⟩ := i_inc (a := k.toInt) (1) (rfl) (by decide) (by omega) (by omega)
              refine lv_iinc (v := z_50) (lv' := [(5, .int z_50), (0, .ref mm), (1, .int x8), (2, .int x6), (3, .int r_1), (4, .int z_32)]) hx hb dX11_letter_162 hl (k := 5) rfl q_50 (by decide) rfl (fun ls hl => ?_)
              refine lv_goto (tgt := 101) hx hb dX11_letter_165 (by decide) ?_
              exact ih101 z_50 g_49 _ _ _ (by omega) (by first | assumption | omega) (fun i i0 i1 => by rw [eg_49, un_i i0 (by omega) (by omega)]; exact hga i i0 i1) (fun i i0 i1 => by
                by_cases q : i = k.toInt
                · rw [eg_49, q, show 6 * x10.toInt + k.toInt = ((6 * x10.toInt) + k.toInt) by omega, pk_us, q_48, show ((144 * x8.toInt) + k.toInt) = (144 * x8.toInt) + k.toInt by omega]
                · rw [eg_49, un_i (by omega) (by omega) (by omega)]; exact hgs i i0 (by omega)) hP hD hS (lv_sub hl [1, 2, 3, 4, 5, 0] rfl)
        have hz_51 : (0 : Int32).toInt = 0 := by decide
        exact loop101 ((6 * z_32.toInt - (0 : Int32).toInt).toNat + 1) (0 : Int32) f3 _ _ _ (by omega) (by first | assumption | omega) (fun _ _ _ => rfl) (fun i i0 i1 => absurd i1 (by omega)) hP hD hS (lv_sub hl [5, 4, 3, 2, 1, 0] rfl)
      · refine lv_aload_n hx hb dX11_letter_91 rfl (lv_at hl 4 rfl) ?_
        refine lv_iconst (v := 4) hx hb dX11_letter_92 (by decide) ?_
        refine lv_iload_n hx hb dX11_letter_93 rfl (lv_at hl 2 rfl) ?_
        have hz_52 : (4 : Int32).toInt = 4 := by decide
        refine call_g (wr := []) (va_runV (As := [.int 4, .int x6]) (rest := []) ⟨hx, hb, hml, hown, hts⟩ (k_fails l D cI cR cM _  ) (cwV 2 hts gX11_letter_X11_fails rfl rfl rfl (by decide +kernel) ⟨Nat.le_of_ble_eq_true rfl, Nat.le_of_ble_eq_true rfl⟩) (pre_V hK hP hD 0 11 rfl rfl) rfl rfl hl.1 rfl (lv_room (Nat.le_of_ble_eq_true rfl)) dX11_letter_94 ⟨Nat.le_of_ble_eq_true rfl, Nat.le_of_ble_eq_true rfl⟩) hP hD hS hA [0, 1, 2, 3, 4, 5, 6, 7, 8, 9, 10, 11, 12, 13, 14, 15, 16, 17, 18, 19, 20, 21, 22, 23, 24, 25] [] (by with_unfolding_all rfl) rfl (by decide) (by decide) (fun u_53 H locs hw hP hD hS => ?_)
        obtain ⟨r_53, y9_53⟩ := u_53
        have hP : va_P D vwCl (mX mm q jn cI x0 x1 x2 x3 x4 y5_34 y6_34 y7_34 y8_34 y9_53 x10 x11 x10 x13 x14 x15 x16 x17 x18 x19 x20 f0 f1 f2 f3 f4 f5 f6 f7 f8 f9 f10 f11 f12 f13 f14 f15 f16 f17 f18 f19 f20 f21 f22 f23 f24) H := hP
        have hD : va_D A (mX mm q jn cI x0 x1 x2 x3 x4 y5_34 y6_34 y7_34 y8_34 y9_53 x10 x11 x10 x13 x14 x15 x16 x17 x18 x19 x20 f0 f1 f2 f3 f4 f5 f6 f7 f8 f9 f10 f11 f12 f13 f14 f15 f16 f17 f18 f19 f20 f21 f22 f23 f24) := hD
        have hr_53 : (r_53.toInt = (4 : Int32).toInt) := hw
        exact g_iret (r_53, y5_34, y6_34, y7_34, y8_34, y9_53, x10, x10, f3) hx hb hr hlocks hS rfl (⟨show x5.toInt ≤ y5_34.toInt ∧ y5_34.toInt ≤ x2.toInt from (by first | assumption | omega), show TokOK y7_34 y8_34 from (by first | assumption | omega), show r_53.toInt = 0 → x5.toInt < y5_34.toInt ∨ y7_34.toInt = 0 from (by first | assumption | omega), show r_53.toInt = 0 → x10.toInt ≤ x10.toInt ∧ x10.toInt = x10.toInt from (by first | assumption | omega), show r_53.toInt = 0 → x10.toInt - (f6 x11.toInt.toNat).toInt ≤ 24 from (by first | assumption | omega), show r_53.toInt = 0 → CellsX jn f3 0 (6 * x10.toInt) from (fun q => absurd q (by omega)), show r_53.toInt = 0 → ZX jn f3 0 x10.toInt from (fun q => absurd q (by omega)), show (r_53.toInt = 0 ∧ 0 < (E (vs i)).1 ∧ x10.toInt - (f6 x11.toInt.toNat).toInt + (E (vs i)).1 ≤ 24 ∧ CU P ks vs (i + 1) y5_34 y7_34 y8_34 ∧ x10.toInt = x10.toInt + (E (vs i)).1 ∧ (∀ i9 : Int, 0 ≤ i9 → i9 < 6 * x10.toInt → f3 i9.toNat = f3 i9.toNat) ∧ RSo f3 (6 * x10.toInt) (E (vs i)).2 (E (vs i)).1) ∨ (r_53.toInt ≠ 0 ∧ ((E (vs i)).1 ≤ 0 ∨ 24 < x10.toInt - (f6 x11.toInt.toNat).toInt + (E (vs i)).1)) from (Or.inr ⟨by omega, Or.inr (by omega)⟩)⟩) hP hD hQ (Nat.le_of_ble_eq_true rfl) (Nat.le_of_ble_eq_true rfl) dX11_letter_97
    · refine lv_aload_n hx hb dX11_letter_59 rfl (lv_at hl 4 rfl) ?_
      refine lv_bipush (v := 6) hx hb dX11_letter_60 (by decide) ?_
      refine lv_iload_n hx hb dX11_letter_62 rfl (lv_at hl 2 rfl) ?_
      have hz_54 : (6 : Int32).toInt = 6 := by decide
      refine call_g (wr := []) (va_runV (As := [.int 6, .int x6]) (rest := []) ⟨hx, hb, hml, hown, hts⟩ (k_fails l D cI cR cM _  ) (cwV 2 hts gX11_letter_X11_fails rfl rfl rfl (by decide +kernel) ⟨Nat.le_of_ble_eq_true rfl, Nat.le_of_ble_eq_true rfl⟩) (pre_V hK hP hD 0 11 rfl rfl) rfl rfl hl.1 rfl (lv_room (Nat.le_of_ble_eq_true rfl)) dX11_letter_63 ⟨Nat.le_of_ble_eq_true rfl, Nat.le_of_ble_eq_true rfl⟩) hP hD hS hA [0, 1, 2, 3, 4, 5, 6, 7, 8, 9, 10, 11, 12, 13, 14, 15, 16, 17, 18, 19, 20, 21, 22, 23, 24, 25] [] (by with_unfolding_all rfl) rfl (by decide) (by decide) (fun u_55 H locs hw hP hD hS => ?_)
      obtain ⟨r_55, y9_55⟩ := u_55
      have hP : va_P D vwCl (mX mm q jn cI x0 x1 x2 x3 x4 x5 x6 x7 x8 y9_55 x10 x11 x12 x13 x14 x15 x16 x17 x18 x19 x20 f0 f1 f2 f3 f4 f5 f6 f7 f8 f9 f10 f11 f12 f13 f14 f15 f16 f17 f18 f19 f20 f21 f22 f23 f24) H := hP
      have hD : va_D A (mX mm q jn cI x0 x1 x2 x3 x4 x5 x6 x7 x8 y9_55 x10 x11 x12 x13 x14 x15 x16 x17 x18 x19 x20 f0 f1 f2 f3 f4 f5 f6 f7 f8 f9 f10 f11 f12 f13 f14 f15 f16 f17 f18 f19 f20 f21 f22 f23 f24) := hD
      have hr_55 : (r_55.toInt = (6 : Int32).toInt) := hw
      exact g_iret (r_55, x5, x6, x7, x8, y9_55, x10, x12, f3) hx hb hr hlocks hS rfl (⟨show x5.toInt ≤ x5.toInt ∧ x5.toInt ≤ x2.toInt from (by first | assumption | omega), show TokOK x7 x8 from (by first | assumption | omega), show r_55.toInt = 0 → x5.toInt < x5.toInt ∨ x7.toInt = 0 from (by first | assumption | omega), show r_55.toInt = 0 → x10.toInt ≤ x10.toInt ∧ x12.toInt = x10.toInt from (by first | assumption | omega), show r_55.toInt = 0 → x10.toInt - (f6 x11.toInt.toNat).toInt ≤ 24 from (by first | assumption | omega), show r_55.toInt = 0 → CellsX jn f3 0 (6 * x10.toInt) from (fun q => absurd q (by omega)), show r_55.toInt = 0 → ZX jn f3 0 x10.toInt from (fun q => absurd q (by omega)), show (r_55.toInt = 0 ∧ 0 < (E (vs i)).1 ∧ x10.toInt - (f6 x11.toInt.toNat).toInt + (E (vs i)).1 ≤ 24 ∧ CU P ks vs (i + 1) x5 x7 x8 ∧ x10.toInt = x10.toInt + (E (vs i)).1 ∧ (∀ i9 : Int, 0 ≤ i9 → i9 < 6 * x10.toInt → f3 i9.toNat = f3 i9.toNat) ∧ RSo f3 (6 * x10.toInt) (E (vs i)).2 (E (vs i)).1) ∨ (r_55.toInt ≠ 0 ∧ ((E (vs i)).1 ≤ 0 ∨ 24 < x10.toInt - (f6 x11.toInt.toNat).toInt + (E (vs i)).1)) from (Or.inr ⟨by omega, Or.inl (by omega)⟩)⟩) hP hD hQ (Nat.le_of_ble_eq_true rfl) (Nat.le_of_ble_eq_true rfl) dX11_letter_66
