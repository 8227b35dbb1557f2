set_option maxRecDepth 100000 in
set_option maxHeartbeats 4000000 in
theorem k_begins2 (l : Launch) (D : va_G) (cI cR cM : ClassId) (sz : Nat) {jn mm : Nat} {q : Nat → Nat} {x0 x1 x2 x3 x4 x5 x6 x7 x8 x9 x10 x11 x12 x13 x14 x15 x16 x17 x18 x19 x20 : Int32} {f0 f1 f2 f3 f4 f5 f6 f7 f8 f9 f10 f11 f12 f13 f14 f15 f16 f17 f18 f19 f20 f21 f22 f23 f24 : Nat → Int32}   : Met l yX11_begins wsX11_begins ({ frames := 1, cells := 0, slots := 0, locals := 22 }) (P0 D cI cR cM [.ref mm] sz (mX mm q jn cI x0 x1 x2 x3 x4 x5 x6 x7 x8 x9 x10 x11 x12 x13 x14 x15 x16 x17 x18 x19 x20 f0 f1 f2 f3 f4 f5 f6 f7 f8 f9 f10 f11 f12 f13 f14 f15 f16 f17 f18 f19 f20 f21 f22 f23 f24)) (QP (fun r => (r.toInt = 0 ∨ r.toInt = 1) ∧ ((r.toInt = 1 ∧ Bgn x7.toInt) ∨ (r.toInt = 0 ∧ ¬ Bgn x7.toInt))) sz) 0 0 (va_A [] sz) := by
  refine go (cc := cX11_begins) (maxL := 1) (ret := (some .boolean)) (by decide) rfl (Nat.le_of_ble_eq_true rfl) ?_
  intro p e s m below meth c ls args Q hQ hsz hx hb hr hml hts hown hlocks hnm hP hK hD hl
  subst hsz
  have hS : va_S (va_A [] s.heap.size) s.heap s.heap [] := va_S.rf
  have hA : ∀ q, s.heap.size ≤ q → va_A [] s.heap.size q := fun q h => Or.inr h
  have hl : lv_has ls 1 [(0, .ref mm)] := hl
  refine lv_aload_n hx hb dX11_begins_0 rfl (lv_at hl 0 rfl) ?_
  refine va_get (D := D) (ci := 11) (v := .int x7) (C := RX11) (T := TX11) (N := 47) hx hb hts (by decide +kernel) hown hK.1 hP 0 rfl rfl 11 (by decide) (hts (.fieldLink RX11 131 "JugglingHallModel" "token" "I") (by decide +kernel)) (fun _ h9 => h9) rfl dX11_begins_1 ?_
  refine lv_iconst (v := 1) hx hb dX11_begins_4 (by decide) ?_
  refine a_icmp_eq (u := x7.toInt) (v := 1) (tgt := 57) hx hb dX11_begins_5 (by decide) (rfl) (by decide) (fun c_1 => ?_) (fun c_1 => ?_)
  · refine lv_iconst (v := 1) hx hb dX11_begins_57 (by decide) ?_
    refine lv_goto (tgt := 62) hx hb dX11_begins_58 (by decide) ?_
    have hz_2 : (1 : Int32).toInt = 1 := by decide
    exact rp_zret hx hb hr hlocks hS (by first | exact Or.inl rfl | exact Or.inr rfl) (⟨show (1 : Int32).toInt = 0 ∨ (1 : Int32).toInt = 1 from (by first | assumption | omega), show ((1 : Int32).toInt = 1 ∧ Bgn x7.toInt) ∨ ((1 : Int32).toInt = 0 ∧ ¬ Bgn x7.toInt) from (by unfold Bgn; omega)⟩) hQ dX11_begins_62
  · refine lv_aload_n hx hb dX11_begins_8 rfl (lv_at hl 0 rfl) ?_
    refine va_get (D := D) (ci := 11) (v := .int x7) (C := RX11) (T := TX11) (N := 47) hx hb hts (by decide +kernel) hown hK.1 hP 0 rfl rfl 11 (by decide) (hts (.fieldLink RX11 131 "JugglingHallModel" "token" "I") (by decide +kernel)) (fun _ h9 => h9) rfl dX11_begins_9 ?_
    refine lv_iconst (v := 2) hx hb dX11_begins_12 (by decide) ?_
    refine a_icmp_eq (u := x7.toInt) (v := 2) (tgt := 57) hx hb dX11_begins_13 (by decide) (rfl) (by decide) (fun c_3 => ?_) (fun c_3 => ?_)
    · refine lv_iconst (v := 1) hx hb dX11_begins_57 (by decide) ?_
      refine lv_goto (tgt := 62) hx hb dX11_begins_58 (by decide) ?_
      have hz_4 : (1 : Int32).toInt = 1 := by decide
      exact rp_zret hx hb hr hlocks hS (by first | exact Or.inl rfl | exact Or.inr rfl) (⟨show (1 : Int32).toInt = 0 ∨ (1 : Int32).toInt = 1 from (by first | assumption | omega), show ((1 : Int32).toInt = 1 ∧ Bgn x7.toInt) ∨ ((1 : Int32).toInt = 0 ∧ ¬ Bgn x7.toInt) from (by unfold Bgn; omega)⟩) hQ dX11_begins_62
    · refine lv_aload_n hx hb dX11_begins_16 rfl (lv_at hl 0 rfl) ?_
      refine va_get (D := D) (ci := 11) (v := .int x7) (C := RX11) (T := TX11) (N := 47) hx hb hts (by decide +kernel) hown hK.1 hP 0 rfl rfl 11 (by decide) (hts (.fieldLink RX11 131 "JugglingHallModel" "token" "I") (by decide +kernel)) (fun _ h9 => h9) rfl dX11_begins_17 ?_
      refine lv_bipush (v := 91) hx hb dX11_begins_20 (by decide) ?_
      refine a_icmp_eq (u := x7.toInt) (v := 91) (tgt := 57) hx hb dX11_begins_22 (by decide) (rfl) (by decide) (fun c_5 => ?_) (fun c_5 => ?_)
      · refine lv_iconst (v := 1) hx hb dX11_begins_57 (by decide) ?_
        refine lv_goto (tgt := 62) hx hb dX11_begins_58 (by decide) ?_
        have hz_6 : (1 : Int32).toInt = 1 := by decide
        exact rp_zret hx hb hr hlocks hS (by first | exact Or.inl rfl | exact Or.inr rfl) (⟨show (1 : Int32).toInt = 0 ∨ (1 : Int32).toInt = 1 from (by first | assumption | omega), show ((1 : Int32).toInt = 1 ∧ Bgn x7.toInt) ∨ ((1 : Int32).toInt = 0 ∧ ¬ Bgn x7.toInt) from (by unfold Bgn; omega)⟩) hQ dX11_begins_62
      · refine lv_aload_n hx hb dX11_begins_25 rfl (lv_at hl 0 rfl) ?_
        refine va_get (D := D) (ci := 11) (v := .int x7) (C := RX11) (T := TX11) (N := 47) hx hb hts (by decide +kernel) hown hK.1 hP 0 rfl rfl 11 (by decide) (hts (.fieldLink RX11 131 "JugglingHallModel" "token" "I") (by decide +kernel)) (fun _ h9 => h9) rfl dX11_begins_26 ?_
        refine lv_bipush (v := 60) hx hb dX11_begins_29 (by decide) ?_
        refine a_icmp_eq (u := x7.toInt) (v := 60) (tgt := 57) hx hb dX11_begins_31 (by decide) (rfl) (by decide) (fun c_7 => ?_) (fun c_7 => ?_)
        · refine lv_iconst (v := 1) hx hb dX11_begins_57 (by decide) ?_
          refine lv_goto (tgt := 62) hx hb dX11_begins_58 (by decide) ?_
          have hz_8 : (1 : Int32).toInt = 1 := by decide
          exact rp_zret hx hb hr hlocks hS (by first | exact Or.inl rfl | exact Or.inr rfl) (⟨show (1 : Int32).toInt = 0 ∨ (1 : Int32).toInt = 1 from (by first | assumption | omega), show ((1 : Int32).toInt = 1 ∧ Bgn x7.toInt) ∨ ((1 : Int32).toInt = 0 ∧ ¬ Bgn x7.toInt) from (by unfold Bgn; omega)⟩) hQ dX11_begins_62
        · refine lv_aload_n hx hb dX11_begins_34 rfl (lv_at hl 0 rfl) ?_
          refine va_get (D := D) (ci := 11) (v := .int x7) (C := RX11) (T := TX11) (N := 47) hx hb hts (by decide +kernel) hown hK.1 hP 0 rfl rfl 11 (by decide) (hts (.fieldLink RX11 131 "JugglingHallModel" "token" "I") (by decide +kernel)) (fun _ h9 => h9) rfl dX11_begins_35 ?_
          refine lv_bipush (v := 40) hx hb dX11_begins_38 (by decide) ?_
          refine a_icmp_eq (u := x7.toInt) (v := 40) (tgt := 57) hx hb dX11_begins_40 (by decide) (rfl) (by decide) (fun c_9 => ?_) (fun c_9 => ?_)
          · refine lv_iconst (v := 1) hx hb dX11_begins_57 (by decide) ?_
            refine lv_goto (tgt := 62) hx hb dX11_begins_58 (by decide) ?_
            have hz_10 : (1 : Int32).toInt = 1 := by decide
            exact rp_zret hx hb hr hlocks hS (by first | exact Or.inl rfl | exact Or.inr rfl) (⟨show (1 : Int32).toInt = 0 ∨ (1 : Int32).toInt = 1 from (by first | assumption | omega), show ((1 : Int32).toInt = 1 ∧ Bgn x7.toInt) ∨ ((1 : Int32).toInt = 0 ∧ ¬ Bgn x7.toInt) from (by unfold Bgn; omega)⟩) hQ dX11_begins_62
          · refine lv_aload_n hx hb dX11_begins_43 rfl (lv_at hl 0 rfl) ?_
            refine va_get (D := D) (ci := 11) (v := .int x7) (C := RX11) (T := TX11) (N := 47) hx hb hts (by decide +kernel) hown hK.1 hP 0 rfl rfl 11 (by decide) (hts (.fieldLink RX11 131 "JugglingHallModel" "token" "I") (by decide +kernel)) (fun _ h9 => h9) rfl dX11_begins_44 ?_
            refine lv_bipush (v := 7) hx hb dX11_begins_47 (by decide) ?_
            refine lv_bipush (v := 10) hx hb dX11_begins_49 (by decide) ?_
            have hz_11 : (7 : Int32).toInt = 7 := by decide
            have hz_12 : (10 : Int32).toInt = 10 := by decide
            refine roP (va_runS (As := [.int x7, .int 7, .int 10]) (rest := []) ⟨hx, hb, hml, hown, hts⟩ (k_isIn l D cI cR cM _  ) (va_cwS 3 hts gX11_begins_X11_isIn rfl rfl rfl (by decide +kernel) ⟨Nat.le_of_ble_eq_true rfl, Nat.le_of_ble_eq_true rfl⟩) (pre_S hK va_P_nil (va_D_nil (A := fun _ => True))) rfl rfl hl.1 rfl (lv_room (Nat.le_of_ble_eq_true rfl)) dX11_begins_51 ⟨Nat.le_of_ble_eq_true rfl, Nat.le_of_ble_eq_true rfl⟩) hS hA hP (fun r_13 H locs hw hP hS => ?_)
            have h_13 : ((r_13.toInt = 1 ∧ (7 : Int32).toInt ≤ x7.toInt ∧ x7.toInt ≤ (10 : Int32).toInt) ∨ (r_13.toInt = 0 ∧ (x7.toInt < (7 : Int32).toInt ∨ (10 : Int32).toInt < x7.toInt))) := hw
            refine a_if_eq (u := r_13.toInt) (tgt := 61) hx hb dX11_begins_54 (by decide) (rfl) (fun c_14 => ?_) (fun c_14 => ?_)
            · refine lv_iconst (v := 0) hx hb dX11_begins_61 (by decide) ?_
              have hz_15 : (0 : Int32).toInt = 0 := by decide
              exact rp_zret hx hb hr hlocks hS (by first | exact Or.inl rfl | exact Or.inr rfl) (⟨show (0 : Int32).toInt = 0 ∨ (0 : Int32).toInt = 1 from (by first | assumption | omega), show ((0 : Int32).toInt = 1 ∧ Bgn x7.toInt) ∨ ((0 : Int32).toInt = 0 ∧ ¬ Bgn x7.toInt) from (by unfold Bgn; omega)⟩) hQ dX11_begins_62
            · refine lv_iconst (v := 1) hx hb dX11_begins_57 (by decide) ?_
              refine lv_goto (tgt := 62) hx hb dX11_begins_58 (by decide) ?_
              have hz_16 : (1 : Int32).toInt = 1 := by decide
              exact rp_zret hx hb hr hlocks hS (by first | exact Or.inl rfl | exact Or.inr rfl) (⟨show (1 : Int32).toInt = 0 ∨ (1 : Int32).toInt = 1 from (by first | assumption | omega), show ((1 : Int32).toInt = 1 ∧ Bgn x7.toInt) ∨ ((1 : Int32).toInt = 0 ∧ ¬ Bgn x7.toInt) from (by unfold Bgn; omega)⟩) hQ dX11_begins_62
set_option maxRecDepth 100000 in
set_option maxHeartbeats 4000000 in
theorem k_sequence3 (l : Launch) (D : va_G) (cI cR cM : ClassId) (sz : Nat) {jn mm : Nat} {q : Nat → Nat} {x0 x1 x2 x3 x4 x5 x6 x7 x8 x9 x10 x11 x12 x13 x14 x15 x16 x17 x18 x19 x20 : Int32} {f0 f1 f2 f3 f4 f5 f6 f7 f8 f9 f10 f11 f12 f13 f14 f15 f16 f17 f18 f19 f20 f21 f22 f23 f24 : Nat → Int32} {P ks vs : Nat → Int} {i : Nat} {E : Int → Int × (Int → Int)} (ht : 0 ≤ x2.toInt ∧ x2.toInt ≤ 300) (h5 : 0 ≤ x5.toInt ∧ x5.toInt ≤ x2.toInt) (hT : TokOK x7 x8) (hj : 1 ≤ jn ∧ jn ≤ 3) (h0 : 0 ≤ x0.toInt ∧ x0.toInt ≤ 60) (hR : RowsX jn f0) (hFr : FreshX jn f8 f9) (hRZ : RowsZ jn f0) (hFZ : FreshZ jn f8 f9) (hj1 : jn = 1) (hSM : SM (sE f2 x2.toInt) P ks vs) (hCU : CU P ks vs i x5 x7 x8) (hE : EnvF f0 f8 f9 x0.toInt E) (hES : ∀ l b : Int, 0 ≤ l → l < 8 → 0 ≤ b → b < (E l).1 → Srt (E l).2 b) : Met l yX11_sequence wsX11_sequence ({ frames := 7, cells := 0, slots := 0, locals := 157 }) (P0 D cI cR cM [.ref mm] sz (mX mm q jn cI x0 x1 x2 x3 x4 x5 x6 x7 x8 x9 x10 x11 x12 x13 x14 x15 x16 x17 x18 x19 x20 f0 f1 f2 f3 f4 f5 f6 f7 f8 f9 f10 f11 f12 f13 f14 f15 f16 f17 f18 f19 f20 f21 f22 f23 f24)) (QG (S := Int32 × Int32 × Int32 × Int32 × Int32 × Int32 × Int32 × Int32 × Int32 × Int32 × Int32 × (Nat → Int32) × (Nat → Int32) × (Nat → Int32) × (Nat → Int32) × (Nat → Int32)) (fun u => some (.int u.1)) (fun u => mX mm q jn cI x0 x1 x2 x3 x4 (u.2.1) (u.2.2.1) (u.2.2.2.1) (u.2.2.2.2.1) (u.2.2.2.2.2.1) (u.2.2.2.2.2.2.1) (u.2.2.2.2.2.2.2.1) (u.2.2.2.2.2.2.2.2.1) (u.2.2.2.2.2.2.2.2.2.1) (u.2.2.2.2.2.2.2.2.2.2.1) x15 x16 x17 x18 x19 x20 f0 f1 f2 (u.2.2.2.2.2.2.2.2.2.2.2.1) (u.2.2.2.2.2.2.2.2.2.2.2.2.1) (u.2.2.2.2.2.2.2.2.2.2.2.2.2.1) (u.2.2.2.2.2.2.2.2.2.2.2.2.2.2.1) (u.2.2.2.2.2.2.2.2.2.2.2.2.2.2.2) f8 f9 f10 f11 f12 f13 f14 f15 f16 f17 f18 f19 f20 f21 f22 f23 f24) (fun u => (x5.toInt ≤ u.2.1.toInt ∧ u.2.1.toInt ≤ x2.toInt) ∧ (TokOK u.2.2.2.1 u.2.2.2.2.1) ∧ (u.1.toInt = 0 → 0 ≤ u.2.2.2.2.2.2.1.toInt ∧ u.2.2.2.2.2.2.1.toInt ≤ 24) ∧ (u.1.toInt = 0 → CellsX jn u.2.2.2.2.2.2.2.2.2.2.2.1 0 (6 * u.2.2.2.2.2.2.1.toInt)) ∧ (u.1.toInt = 0 → ZX jn u.2.2.2.2.2.2.2.2.2.2.2.1 0 u.2.2.2.2.2.2.1.toInt) ∧ ((u.1.toInt = 0 ∧ SqR P ks vs E i u.2.1 u.2.2.2.1 u.2.2.2.2.1 u.2.2.2.2.2.2.1.toInt u.2.2.2.2.2.2.2.2.2.2.2.1) ∨ (u.1.toInt ≠ 0 ∧ Fls ks vs E (Cf0 i)))) D (va_A (mX mm q jn cI x0 x1 x2 x3 x4 x5 x6 x7 x8 x9 x10 x11 x12 x13 x14 x15 x16 x17 x18 x19 x20 f0 f1 f2 f3 f4 f5 f6 f7 f8 f9 f10 f11 f12 f13 f14 f15 f16 f17 f18 f19 f20 f21 f22 f23 f24) sz)) 0 0 (va_A (mX mm q jn cI x0 x1 x2 x3 x4 x5 x6 x7 x8 x9 x10 x11 x12 x13 x14 x15 x16 x17 x18 x19 x20 f0 f1 f2 f3 f4 f5 f6 f7 f8 f9 f10 f11 f12 f13 f14 f15 f16 f17 f18 f19 f20 f21 f22 f23 f24) sz) := by
  refine go (cc := cX11_sequence) (maxL := 4) (ret := (some .int)) (by decide) rfl (Nat.le_of_ble_eq_true rfl) ?_
  intro p e s m below meth c ls args Q hQ hsz hx hb hr hml hts hown hlocks hnm hP hK hD hl
  subst hsz
  have hD := hD.self (sz := s.heap.size)
  generalize hAe : va_A (mX mm q jn cI x0 x1 x2 x3 x4 x5 x6 x7 x8 x9 x10 x11 x12 x13 x14 x15 x16 x17 x18 x19 x20 f0 f1 f2 f3 f4 f5 f6 f7 f8 f9 f10 f11 f12 f13 f14 f15 f16 f17 f18 f19 f20 f21 f22 f23 f24) s.heap.size = A at hD hQ
  have hA : ∀ q, s.heap.size ≤ q → A q := fun q h => by rw [← hAe]; exact Or.inr h
  have hS : va_S A s.heap s.heap [] := va_S.rf
  have hl : lv_has ls 4 [(0, .ref mm)] := hl
  refine lv_aload_n hx hb dX11_sequence_0 rfl (lv_at hl 0 rfl) ?_
  refine lv_iconst (v := 0) hx hb dX11_sequence_1 (by decide) ?_
  refine mp_10 hx hb hts (by decide +kernel) hown hK hP hD hS (hts (.fieldLink RX11 151 "JugglingHallModel" "top" "I") (by decide +kernel)) dX11_sequence_2 (fun H locs hP hD hS => ?_)
  refine lv_aload_n hx hb dX11_sequence_5 rfl (lv_at hl 0 rfl) ?_
  refine lv_iconst (v := 0) hx hb dX11_sequence_6 (by decide) ?_
  refine mp_11 hx hb hts (by decide +kernel) hown hK hP hD hS (hts (.fieldLink RX11 154 "JugglingHallModel" "depth" "I") (by decide +kernel)) dX11_sequence_7 (fun H locs hP hD hS => ?_)
  refine lv_aload_n hx hb dX11_sequence_10 rfl (lv_at hl 0 rfl) ?_
  refine va_get (D := D) (ci := 11) (v := .ref (q 6)) (C := RX11) (T := TX11) (N := 47) hx hb hts (by decide +kernel) hown hK.1 hP 0 rfl rfl 17 (by decide) (hts (.fieldLink RX11 36 "JugglingHallModel" "starts" "[I") (by decide +kernel)) (fun _ h9 => h9) rfl dX11_sequence_11 ?_
  refine lv_iconst (v := 0) hx hb dX11_sequence_14 (by decide) ?_
  refine lv_iconst (v := 0) hx hb dX11_sequence_15 (by decide) ?_
  refine ma_6 (u := 0) hx hb hK hP hD hS dX11_sequence_16 (by decide) (by omega) (fun g_1 H locs eg_1 hP hD hS => ?_)
  refine lv_iconst (v := 0) hx hb dX11_sequence_17 (by decide) ?_
  refine lv_istore_n (lv' := [(1, .int 0), (0, .ref mm)]) hx hb dX11_sequence_18 rfl hl (by decide) rfl (fun ls hl => ?_)
  refine lv_iconst (v := 0) hx hb dX11_sequence_19 (by decide) ?_
  refine lv_istore_n (lv' := [(2, .int 0), (1, .int 0), (0, .ref mm)]) hx hb dX11_sequence_20 rfl hl (by decide) rfl (fun ls hl => ?_)
  have loop21 : ∀ (ddloop21 : Nat) (mt : Int32) (io : Int32) (a5 : Int32) (a6 : Int32) (a7 : Int32) (a8 : Int32) (a9 : Int32) (a10 : Int32) (a11 : Int32) (a12 : Int32) (a13 : Int32) (a14 : Int32) (q3 : (Nat → Int32)) (q4 : (Nat → Int32)) (q5 : (Nat → Int32)) (q6 : (Nat → Int32)) (q7 : (Nat → Int32)) (H : Heap) (locs : List Loc) (ls : Array Slot), (2 * (x2.toInt - a5.toInt) + (if a7.toInt = 0 then 0 else 1)).toNat < ddloop21 → (mt.toInt = 0 ∨ mt.toInt = 1) → (io.toInt = 0 ∨ io.toInt = 1) → (x5.toInt ≤ a5.toInt ∧ a5.toInt ≤ x2.toInt) → (TokOK a7 a8) → (0 ≤ a11.toInt ∧ a11.toInt ≤ 5) → (SQ q6 a11.toInt) → ((q6 a11.toInt.toNat).toInt ≤ a10.toInt ∧ a10.toInt - (q6 a11.toInt.toNat).toInt ≤ 24) → (OG q4 q5 a11.toInt) → (mt.toInt = 1 → 0 ≤ a12.toInt ∧ a12.toInt ≤ a10.toInt) → (CellsX jn q3 0 (6 * a10.toInt)) → (ZX jn q3 0 a10.toInt) → (Hd (∃ (ic : Nat) (o9 : Int) (w9 st9 op9 dg9 : Int → Int), SI P ks vs E (Cf0 i) mt io a5 a7 a8 a10 a11 a12 q3 q4 q5 q6 ic o9 w9 st9 op9 dg9)) → va_P D vwCl (mX mm q jn cI x0 x1 x2 x3 x4 a5 a6 a7 a8 a9 a10 a11 a12 a13 a14 x15 x16 x17 x18 x19 x20 f0 f1 f2 q3 q4 q5 q6 q7 f8 f9 f10 f11 f12 f13 f14 f15 f16 f17 f18 f19 f20 f21 f22 f23 f24) H → va_D A (mX mm q jn cI x0 x1 x2 x3 x4 a5 a6 a7 a8 a9 a10 a11 a12 a13 a14 x15 x16 x17 x18 x19 x20 f0 f1 f2 q3 q4 q5 q6 q7 f8 f9 f10 f11 f12 f13 f14 f15 f16 f17 f18 f19 f20 f21 f22 f23 f24) → va_S A s.heap H locs → lv_has ls 4 [(0, .ref mm), (1, .int mt), (2, .int io)] → W p l e ({ frames := 7, cells := 0, slots := 0, locals := 157 }) s m args below meth c H locs 0 0 Q (F0 m 21 ls []) := by
    intro ddloop21
    induction ddloop21 with
    | zero =>
      intro mt io a5 a6 a7 a8 a9 a10 a11 a12 a13 a14 q3 q4 q5 q6 q7 H locs ls hdd
      exact absurd hdd (Nat.not_lt_zero _)
    | succ ddloop21 ih21 =>
      intro mt io a5 a6 a7 a8 a9 a10 a11 a12 a13 a14 q3 q4 q5 q6 q7 H locs ls hdd hmt hio hp hT hd hSq htop hO h12 hC hZ hSI hP hD hS hl
      have hbd := sq_bd hSq a11.toInt (by omega) (by omega)
      obtain ⟨ic, o9, w9, st9, op9, dg9, hJ⟩ := hSI
      have v2_ : a7.toInt = ks ic := hJ.2.1.2.1
      refine lv_iconst (v := 0) hx hb dX11_sequence_21 (by decide) ?_
      refine lv_istore_n (lv' := [(3, .int 0), (0, .ref mm), (1, .int mt), (2, .int io)]) hx hb dX11_sequence_22 rfl hl (by decide) rfl (fun ls hl => ?_)
      have join2 : ∀  (H : Heap) (locs : List Loc) (ls : Array Slot), (¬ (mt.toInt = 1 ∧ a7.toInt = 42)) → (¬ (io.toInt = 1 ∧ a7.toInt = 41 ∧ 0 < a11.toInt)) → (¬ (a7.toInt = 40 ∨ (7 ≤ a7.toInt ∧ a7.toInt ≤ 10))) → (Hd (io.toInt = 1 → Bgn (ks ic))) → va_P D vwCl (mX mm q jn cI x0 x1 x2 x3 x4 a5 a6 a7 a8 a9 a10 a11 a12 a13 a14 x15 x16 x17 x18 x19 x20 f0 f1 f2 q3 q4 q5 q6 q7 f8 f9 f10 f11 f12 f13 f14 f15 f16 f17 f18 f19 f20 f21 f22 f23 f24) H → va_D A (mX mm q jn cI x0 x1 x2 x3 x4 a5 a6 a7 a8 a9 a10 a11 a12 a13 a14 x15 x16 x17 x18 x19 x20 f0 f1 f2 q3 q4 q5 q6 q7 f8 f9 f10 f11 f12 f13 f14 f15 f16 f17 f18 f19 f20 f21 f22 f23 f24) → va_S A s.heap H locs → lv_has ls 4 [(0, .ref mm), (1, .int mt), (2, .int io), (3, .int 0)] → W p l e ({ frames := 7, cells := 0, slots := 0, locals := 157 }) s m args below meth c H locs 0 0 Q (F0 m 143 ls []) := by
        intro  H locs ls hn46 hn76 hn111 hBg hP hD hS hl
        refine lv_aload_n hx hb dX11_sequence_143 rfl (lv_at hl 0 rfl) ?_
        refine va_get (D := D) (ci := 11) (v := .int a7) (C := RX11) (T := TX11) (N := 47) hx hb hts (by decide +kernel) hown hK.1 hP 0 rfl rfl 11 (by decide) (hts (.fieldLink RX11 131 "JugglingHallModel" "token" "I") (by decide +kernel)) (fun _ h9 => h9) rfl dX11_sequence_144 ?_
        refine lv_iconst (v := 2) hx hb dX11_sequence_147 (by decide) ?_
        refine a_icmp_ne (u := a7.toInt) (v := 2) (tgt := 158) hx hb dX11_sequence_148 (by decide) (rfl) (by decide) (fun c_3 => ?_) (fun c_3 => ?_)
        · refine lv_aload_n hx hb dX11_sequence_158 rfl (lv_at hl 0 rfl) ?_
          refine call_g (wr := []) (va_runV (As := []) (rest := []) ⟨hx, hb, hml, hown, hts⟩ (k_beat3 l D cI cR cM _ (P := P) (ks := ks) (vs := vs) (i := ic) (by first | assumption | omega) (by first | assumption | omega) (by first | assumption | omega) (by first | assumption | omega) (by first | assumption | omega) (by first | assumption | omega) (by first | assumption | omega) (by first | assumption | omega) (by first | assumption | omega) (by first | assumption | omega) (hJ.2.1)) (cwV 0 hts gX11_sequence_X11_beat rfl rfl rfl (by decide +kernel) ⟨Nat.le_of_ble_eq_true rfl, Nat.le_of_ble_eq_true rfl⟩) (pre_V hK hP hD 0 11 rfl rfl) rfl rfl hl.1 rfl (lv_room (Nat.le_of_ble_eq_true rfl)) dX11_sequence_159 ⟨Nat.le_of_ble_eq_true rfl, Nat.le_of_ble_eq_true rfl⟩) hP hD hS hA [0, 1, 2, 3, 4, 5, 6, 7, 8, 9, 10, 11, 12, 13, 14, 15, 16, 17, 18, 19, 20, 21, 22, 23, 24, 25] [] (by with_unfolding_all rfl) rfl (by decide) (by decide) (fun u_4 H locs hw hP hD hS => ?_)
          obtain ⟨r_4, y5_4, y6_4, y7_4, y8_4, y9_4, y10_4, y12_4, y13_4, y14_4, g3_4⟩ := u_4
          have hP : va_P D vwCl (mX mm q jn cI x0 x1 x2 x3 x4 y5_4 y6_4 y7_4 y8_4 y9_4 y10_4 a11 y12_4 y13_4 y14_4 x15 x16 x17 x18 x19 x20 f0 f1 f2 g3_4 q4 q5 q6 q7 f8 f9 f10 f11 f12 f13 f14 f15 f16 f17 f18 f19 f20 f21 f22 f23 f24) H := hP
          have hD : va_D A (mX mm q jn cI x0 x1 x2 x3 x4 y5_4 y6_4 y7_4 y8_4 y9_4 y10_4 a11 y12_4 y13_4 y14_4 x15 x16 x17 x18 x19 x20 f0 f1 f2 g3_4 q4 q5 q6 q7 f8 f9 f10 f11 f12 f13 f14 f15 f16 f17 f18 f19 f20 f21 f22 f23 f24) := hD
          obtain ⟨ha_4, hT_4, hg_4, hb_4, hm_4, hC_4, h7_4, hZ_4, hF_4⟩ : (a5.toInt ≤ y5_4.toInt ∧ y5_4.toInt ≤ x2.toInt) ∧ (TokOK y7_4 y8_4) ∧ (r_4.toInt = 0 → a5.toInt < y5_4.toInt ∨ y7_4.toInt = 0) ∧ (r_4.toInt = 0 → y10_4.toInt = a10.toInt + 1 ∧ y12_4.toInt = a10.toInt) ∧ (r_4.toInt = 0 → y10_4.toInt - (q6 a11.toInt.toNat).toInt ≤ 24) ∧ (r_4.toInt = 0 → CellsX jn g3_4 0 (6 * y10_4.toInt)) ∧ (r_4.toInt = 0 → a7.toInt ≠ 0) ∧ (r_4.toInt = 0 → (∀ i : Int, 0 ≤ i → i < 6 * a10.toInt → g3_4 i.toNat = q3 i.toNat) ∧ ∀ x : Int, 2 * (jn : Int) ≤ x → x < 6 → (g3_4 (6 * a10.toInt + x).toNat).toInt = 0) ∧ (Hd (Hd ((r_4.toInt = 0 ∧ ∃ (a9 b9 : Int) (j9 : Nat), BtR ks vs ic a9 b9 j9 ∧ CU P ks vs j9 y5_4 y7_4 y8_4 ∧ (g3_4 (6 * a10.toInt).toNat).toInt = 4 * a9 ∧ (g3_4 (6 * a10.toInt + 1).toNat).toInt = 4 * b9) ∨ (r_4.toInt ≠ 0 ∧ (BtF ks vs ic ∨ 24 < a10.toInt + 1 - (q6 a11.toInt.toNat).toInt))))) := hw
          refine lv_istore_n (lv' := [(3, .int r_4), (0, .ref mm), (1, .int mt), (2, .int io)]) hx hb dX11_sequence_162 rfl hl (by decide) rfl (fun ls hl => ?_)
          refine lv_iconst (v := 1) hx hb dX11_sequence_163 (by decide) ?_
          refine lv_istore_n (lv' := [(2, .int 1), (3, .int r_4), (0, .ref mm), (1, .int mt)]) hx hb dX11_sequence_164 rfl hl (by decide) rfl (fun ls hl => ?_)
          refine lv_iconst (v := 1) hx hb dX11_sequence_165 (by decide) ?_
          refine lv_istore_n (lv' := [(1, .int 1), (2, .int 1), (3, .int r_4), (0, .ref mm)]) hx hb dX11_sequence_166 rfl hl (by decide) rfl (fun ls hl => ?_)
          refine lv_iload_n hx hb dX11_sequence_167 rfl (lv_at hl 2 rfl) ?_
          refine a_if_eq (u := r_4.toInt) (tgt := 173) hx hb dX11_sequence_168 (by decide) (rfl) (fun c_5 => ?_) (fun c_5 => ?_)
          · refine lv_goto (tgt := 21) hx hb dX11_sequence_173 (by decide) ?_
            have hz_6 : (1 : Int32).toInt = 1 := by decide
            have hz_7 : (1 : Int32).toInt = 1 := by decide
            exact ih21 (1 : Int32) (1 : Int32) y5_4 y6_4 y7_4 y8_4 y9_4 y10_4 a11 y12_4 y13_4 y14_4 g3_4 q4 q5 q6 q7 _ _ _ (by omega) (by first | assumption | omega) (by first | assumption | omega) (by first | assumption | omega) (by first | assumption | omega) (by first | assumption | omega) (hSq) (by have h8 := hm_4 (by omega); have h9 := hb_4 (by omega); omega) (hO) (by first | assumption | omega) (hC_4 (by omega)) (by rw [show y10_4.toInt = a10.toInt + 1 by omega]; exact zx_push hZ (hZ_4 (by omega)).1 (hZ_4 (by omega)).2) (by
              obtain ⟨a9, b9, j9, t1, t2, t3, t4⟩ := or_T hF_4 (by omega)
              have t5 := hb_4 (by omega)
              have t6 := hm_4 (by omega)
              have t7 : a7.toInt = 1 ∨ a7.toInt = 91 := by
                rw [v2_]
                rcases t1 with t | t
                · exact Or.inl t.2.1.1
                · exact Or.inr t.1
              exact seq_beat hJ (by omega) t7 (by omega) (by omega) (by omega) (by decide) (by decide) t5.2 t1 (Bt_v hSM t1) (by omega) t2 t5.1 (hZ_4 (by omega)).1 t3 t4) hP hD hS (lv_sub hl [3, 0, 1] rfl)
          · refine lv_iload_n hx hb dX11_sequence_171 rfl (lv_at hl 2 rfl) ?_
            exact g_iret (r_4, y5_4, y6_4, y7_4, y8_4, y9_4, y10_4, a11, y12_4, y13_4, y14_4, g3_4, q4, q5, q6, q7) hx hb hr hlocks hS rfl (⟨show x5.toInt ≤ y5_4.toInt ∧ y5_4.toInt ≤ x2.toInt from (by first | assumption | omega), show TokOK y7_4 y8_4 from (by first | assumption | omega), show r_4.toInt = 0 → 0 ≤ y10_4.toInt ∧ y10_4.toInt ≤ 24 from (fun q => absurd q (by omega)), show r_4.toInt = 0 → CellsX jn g3_4 0 (6 * y10_4.toInt) from (fun q => absurd q (by omega)), show r_4.toInt = 0 → ZX jn g3_4 0 y10_4.toInt from (fun q => absurd q (by omega)), show (r_4.toInt = 0 ∧ SqR P ks vs E i y5_4 y7_4 y8_4 y10_4.toInt g3_4) ∨ (r_4.toInt ≠ 0 ∧ Fls ks vs E (Cf0 i)) from (by
              have e1 := hJ.2.2.2.2.1 a11.toInt (by omega) (Int.le_refl _)
              have e3 := or_F hF_4 (by omega)
              rw [e1] at e3
              exact Or.inr ⟨by omega, SI_F hJ (F_beat (by omega) (by omega) (by omega) (by omega) hBg e3)⟩)⟩) hP hD hQ (Nat.le_of_ble_eq_true rfl) (Nat.le_of_ble_eq_true rfl) dX11_sequence_172
        · refine lv_aload_n hx hb dX11_sequence_151 rfl (lv_at hl 0 rfl) ?_
          have hv9 := hT.2.2 (by omega)
          refine call_g (wr := []) (va_runV (As := []) (rest := []) ⟨hx, hb, hml, hown, hts⟩ (k_letter3 l D cI cR cM _ (P := P) (ks := ks) (vs := vs) (i := ic) (E := E) (by first | assumption | omega) (by first | assumption | omega) (by first | assumption | omega) (by first | assumption | omega) (by first | assumption | omega) (by first | assumption | omega) (by first | assumption | omega) (by first | assumption | omega) (by first | assumption | omega) (by first | assumption | omega) (by first | assumption | omega) (by first | assumption | omega) (by first | assumption | omega) (by first | assumption | omega) (by first | assumption | omega) (by first | assumption | omega) (by first | assumption | omega) (hJ.2.1) (by first | assumption | omega) (by first | assumption | omega)) (cwV 0 hts gX11_sequence_X11_letter rfl rfl rfl (by decide +kernel) ⟨Nat.le_of_ble_eq_true rfl, Nat.le_of_ble_eq_true rfl⟩) (pre_V hK hP hD 0 11 rfl rfl) rfl rfl hl.1 rfl (lv_room (Nat.le_of_ble_eq_true rfl)) dX11_sequence_152 ⟨Nat.le_of_ble_eq_true rfl, Nat.le_of_ble_eq_true rfl⟩) hP hD hS hA [0, 1, 2, 3, 4, 5, 6, 7, 8, 9, 10, 11, 12, 13, 14, 15, 16, 17, 18, 19, 20, 21, 22, 23, 24, 25] [] (by with_unfolding_all rfl) rfl (by decide) (by decide) (fun u_8 H locs hw hP hD hS => ?_)
          obtain ⟨r_8, y5_8, y6_8, y7_8, y8_8, y9_8, y10_8, y12_8, g3_8⟩ := u_8
          have hP : va_P D vwCl (mX mm q jn cI x0 x1 x2 x3 x4 y5_8 y6_8 y7_8 y8_8 y9_8 y10_8 a11 y12_8 a13 a14 x15 x16 x17 x18 x19 x20 f0 f1 f2 g3_8 q4 q5 q6 q7 f8 f9 f10 f11 f12 f13 f14 f15 f16 f17 f18 f19 f20 f21 f22 f23 f24) H := hP
          have hD : va_D A (mX mm q jn cI x0 x1 x2 x3 x4 y5_8 y6_8 y7_8 y8_8 y9_8 y10_8 a11 y12_8 a13 a14 x15 x16 x17 x18 x19 x20 f0 f1 f2 g3_8 q4 q5 q6 q7 f8 f9 f10 f11 f12 f13 f14 f15 f16 f17 f18 f19 f20 f21 f22 f23 f24) := hD
          obtain ⟨ha_8, hT_8, hg_8, hb_8, hm_8, hC_8, hZ_8, hF_8⟩ : (a5.toInt ≤ y5_8.toInt ∧ y5_8.toInt ≤ x2.toInt) ∧ (TokOK y7_8 y8_8) ∧ (r_8.toInt = 0 → a5.toInt < y5_8.toInt ∨ y7_8.toInt = 0) ∧ (r_8.toInt = 0 → a10.toInt ≤ y10_8.toInt ∧ y12_8.toInt = a10.toInt) ∧ (r_8.toInt = 0 → y10_8.toInt - (q6 a11.toInt.toNat).toInt ≤ 24) ∧ (r_8.toInt = 0 → CellsX jn g3_8 0 (6 * y10_8.toInt)) ∧ (r_8.toInt = 0 → ZX jn g3_8 0 y10_8.toInt) ∧ (Hd ((r_8.toInt = 0 ∧ 0 < (E (vs ic)).1 ∧ a10.toInt - (q6 a11.toInt.toNat).toInt + (E (vs ic)).1 ≤ 24 ∧ CU P ks vs (ic + 1) y5_8 y7_8 y8_8 ∧ y10_8.toInt = a10.toInt + (E (vs ic)).1 ∧ (∀ i9 : Int, 0 ≤ i9 → i9 < 6 * a10.toInt → g3_8 i9.toNat = q3 i9.toNat) ∧ RSo g3_8 (6 * a10.toInt) (E (vs ic)).2 (E (vs ic)).1) ∨ (r_8.toInt ≠ 0 ∧ ((E (vs ic)).1 ≤ 0 ∨ 24 < a10.toInt - (q6 a11.toInt.toNat).toInt + (E (vs ic)).1)))) := hw
          refine lv_goto (tgt := 162) hx hb dX11_sequence_155 (by decide) ?_
          refine lv_istore_n (lv' := [(3, .int r_8), (0, .ref mm), (1, .int mt), (2, .int io)]) hx hb dX11_sequence_162 rfl hl (by decide) rfl (fun ls hl => ?_)
          refine lv_iconst (v := 1) hx hb dX11_sequence_163 (by decide) ?_
          refine lv_istore_n (lv' := [(2, .int 1), (3, .int r_8), (0, .ref mm), (1, .int mt)]) hx hb dX11_sequence_164 rfl hl (by decide) rfl (fun ls hl => ?_)
          refine lv_iconst (v := 1) hx hb dX11_sequence_165 (by decide) ?_
          refine lv_istore_n (lv' := [(1, .int 1), (2, .int 1), (3, .int r_8), (0, .ref mm)]) hx hb dX11_sequence_166 rfl hl (by decide) rfl (fun ls hl => ?_)
          refine lv_iload_n hx hb dX11_sequence_167 rfl (lv_at hl 2 rfl) ?_
          refine a_if_eq (u := r_8.toInt) (tgt := 173) hx hb dX11_sequence_168 (by decide) (rfl) (fun c_9 => ?_) (fun c_9 => ?_)
          · refine lv_goto (tgt := 21) hx hb dX11_sequence_173 (by decide) ?_
            have hz_10 : (1 : Int32).toInt = 1 := by decide
            have hz_11 : (1 : Int32).toInt = 1 := by decide
            exact ih21 (1 : Int32) (1 : Int32) y5_8 y6_8 y7_8 y8_8 y9_8 y10_8 a11 y12_8 a13 a14 g3_8 q4 q5 q6 q7 _ _ _ (by omega) (by first | assumption | omega) (by first | assumption | omega) (by first | assumption | omega) (by first | assumption | omega) (by first | assumption | omega) (hSq) (by have h8 := hm_8 (by omega); have h9 := hb_8 (by omega); omega) (hO) (by first | assumption | omega) (hC_8 (by omega)) (hZ_8 (by omega)) (by
              obtain ⟨t1, t2, t3, t4, t5, t6⟩ := or_T hF_8 (by omega)
              have t7 := hb_8 (by omega)
              have t8 := hJ.2.1.2.2 (Or.inr (by omega))
              exact seq_letter hJ (by omega) (by omega) (by omega) (by omega) (by decide) (by decide) (by omega) (fun b9 h8 h9 => hES _ b9 (by omega) (by omega) h8 h9) t1 t2 t3 t4 t5 t6) hP hD hS (lv_sub hl [3, 0, 1] rfl)
          · refine lv_iload_n hx hb dX11_sequence_171 rfl (lv_at hl 2 rfl) ?_
            exact g_iret (r_8, y5_8, y6_8, y7_8, y8_8, y9_8, y10_8, a11, y12_8, a13, a14, g3_8, q4, q5, q6, q7) hx hb hr hlocks hS rfl (⟨show x5.toInt ≤ y5_8.toInt ∧ y5_8.toInt ≤ x2.toInt from (by first | assumption | omega), show TokOK y7_8 y8_8 from (by first | assumption | omega), show r_8.toInt = 0 → 0 ≤ y10_8.toInt ∧ y10_8.toInt ≤ 24 from (fun q => absurd q (by omega)), show r_8.toInt = 0 → CellsX jn g3_8 0 (6 * y10_8.toInt) from (fun q => absurd q (by omega)), show r_8.toInt = 0 → ZX jn g3_8 0 y10_8.toInt from (fun q => absurd q (by omega)), show (r_8.toInt = 0 ∧ SqR P ks vs E i y5_8 y7_8 y8_8 y10_8.toInt g3_8) ∨ (r_8.toInt ≠ 0 ∧ Fls ks vs E (Cf0 i)) from (by
              have e1 := hJ.2.2.2.2.1 a11.toInt (by omega) (Int.le_refl _)
              have e3 := or_F hF_8 (by omega)
              rw [e1] at e3
              exact Or.inr ⟨by omega, SI_F hJ (F_letter (by omega) e3)⟩)⟩) hP hD hQ (Nat.le_of_ble_eq_true rfl) (Nat.le_of_ble_eq_true rfl) dX11_sequence_172
      have join12 : ∀  (H : Heap) (locs : List Loc) (ls : Array Slot), (¬ (mt.toInt = 1 ∧ a7.toInt = 42)) → (¬ (io.toInt = 1 ∧ a7.toInt = 41 ∧ 0 < a11.toInt)) → (¬ (a7.toInt = 40 ∨ (7 ≤ a7.toInt ∧ a7.toInt ≤ 10))) → va_P D vwCl (mX mm q jn cI x0 x1 x2 x3 x4 a5 a6 a7 a8 a9 a10 a11 a12 a13 a14 x15 x16 x17 x18 x19 x20 f0 f1 f2 q3 q4 q5 q6 q7 f8 f9 f10 f11 f12 f13 f14 f15 f16 f17 f18 f19 f20 f21 f22 f23 f24) H → va_D A (mX mm q jn cI x0 x1 x2 x3 x4 a5 a6 a7 a8 a9 a10 a11 a12 a13 a14 x15 x16 x17 x18 x19 x20 f0 f1 f2 q3 q4 q5 q6 q7 f8 f9 f10 f11 f12 f13 f14 f15 f16 f17 f18 f19 f20 f21 f22 f23 f24) → va_S A s.heap H locs → lv_has ls 4 [(0, .ref mm), (1, .int mt), (2, .int io), (3, .int 0)] → W p l e ({ frames := 7, cells := 0, slots := 0, locals := 157 }) s m args below meth c H locs 0 0 Q (F0 m 111 ls []) := by
        intro  H locs ls hn46 hn76 hn111 hP hD hS hl
        refine lv_iload_n hx hb dX11_sequence_111 rfl (lv_at hl 2 rfl) ?_
        refine a_if_eq (u := io.toInt) (tgt := 143) hx hb dX11_sequence_112 (by decide) (rfl) (fun c_13 => ?_) (fun c_13 => ?_)
        · exact join2  _ _ _ (by first | assumption | omega) (by first | assumption | omega) (by first | assumption | omega) (fun q => absurd q (by omega)) hP hD hS (lv_sub hl [0, 1, 2, 3] rfl)
        · refine lv_aload_n hx hb dX11_sequence_115 rfl (lv_at hl 0 rfl) ?_
          refine roP (va_runV (As := []) (rest := []) ⟨hx, hb, hml, hown, hts⟩ (k_begins2 l D cI cR cM _  ) (cwV 0 hts gX11_sequence_X11_begins rfl rfl rfl (by decide +kernel) ⟨Nat.le_of_ble_eq_true rfl, Nat.le_of_ble_eq_true rfl⟩) (pre_V hK hP hD 0 11 rfl rfl) rfl rfl hl.1 rfl (lv_room (Nat.le_of_ble_eq_true rfl)) dX11_sequence_116 ⟨Nat.le_of_ble_eq_true rfl, Nat.le_of_ble_eq_true rfl⟩) hS hA hP (fun r_14 H locs hw hP hS => ?_)
          obtain ⟨h_14, hb_14⟩ : (r_14.toInt = 0 ∨ r_14.toInt = 1) ∧ ((r_14.toInt = 1 ∧ Bgn a7.toInt) ∨ (r_14.toInt = 0 ∧ ¬ Bgn a7.toInt)) := hw
          refine a_if_ne (u := r_14.toInt) (tgt := 143) hx hb dX11_sequence_119 (by decide) (rfl) (fun c_15 => ?_) (fun c_15 => ?_)
          · exact join2  _ _ _ (by first | assumption | omega) (by first | assumption | omega) (by first | assumption | omega) (fun _ => by rw [← v2_]; exact isw_1 hb_14 (by omega)) hP hD hS (lv_sub hl [0, 1, 2, 3] rfl)
          · refine lv_aload_n hx hb dX11_sequence_122 rfl (lv_at hl 0 rfl) ?_
            refine va_get (D := D) (ci := 11) (v := .int a11) (C := RX11) (T := TX11) (N := 47) hx hb hts (by decide +kernel) hown hK.1 hP 0 rfl rfl 20 (by decide) (hts (.fieldLink RX11 154 "JugglingHallModel" "depth" "I") (by decide +kernel)) (fun _ h9 => h9) rfl dX11_sequence_123 ?_
            refine a_if_le (u := a11.toInt) (tgt := 141) hx hb dX11_sequence_126 (by decide) (rfl) (fun c_16 => ?_) (fun c_16 => ?_)
            · refine lv_iconst (v := 0) hx hb dX11_sequence_141 (by decide) ?_
              have hz_17 : (0 : Int32).toInt = 0 := by decide
              exact g_iret ((0 : Int32), a5, a6, a7, a8, a9, a10, a11, a12, a13, a14, q3, q4, q5, q6, q7) hx hb hr hlocks hS rfl (⟨show x5.toInt ≤ a5.toInt ∧ a5.toInt ≤ x2.toInt from (by first | assumption | omega), show TokOK a7 a8 from (by first | assumption | omega), show (0 : Int32).toInt = 0 → 0 ≤ a10.toInt ∧ a10.toInt ≤ 24 from (fun _ => by have h9 := hSq.1; have h8 : (q6 a11.toInt.toNat).toInt = 0 := (by rw [show a11.toInt = 0 by omega]; exact h9); omega), show (0 : Int32).toInt = 0 → CellsX jn q3 0 (6 * a10.toInt) from (fun _ => hC), show (0 : Int32).toInt = 0 → ZX jn q3 0 a10.toInt from (fun _ => hZ), show ((0 : Int32).toInt = 0 ∧ SqR P ks vs E i a5 a7 a8 a10.toInt q3) ∨ ((0 : Int32).toInt ≠ 0 ∧ Fls ks vs E (Cf0 i)) from (Or.inl ⟨by omega, SI_R hJ (by omega) (by omega) (by omega) (isw_0 hb_14 (by omega)) hSq.1⟩)⟩) hP hD hQ (Nat.le_of_ble_eq_true rfl) (Nat.le_of_ble_eq_true rfl) dX11_sequence_142
            · refine lv_aload_n hx hb dX11_sequence_129 rfl (lv_at hl 0 rfl) ?_
              refine lv_iconst (v := 1) hx hb dX11_sequence_130 (by decide) ?_
              refine lv_aload_n hx hb dX11_sequence_131 rfl (lv_at hl 0 rfl) ?_
              refine va_get (D := D) (ci := 11) (v := .int a6) (C := RX11) (T := TX11) (N := 47) hx hb hts (by decide +kernel) hown hK.1 hP 0 rfl rfl 10 (by decide) (hts (.fieldLink RX11 120 "JugglingHallModel" "place" "I") (by decide +kernel)) (fun _ h9 => h9) rfl dX11_sequence_132 ?_
              have hz_18 : (1 : Int32).toInt = 1 := by decide
              refine call_g (wr := []) (va_runV (As := [.int 1, .int a6]) (rest := []) ⟨hx, hb, hml, hown, hts⟩ (k_fails l D cI cR cM _  ) (cwV 2 hts gX11_sequence_X11_fails rfl rfl rfl (by decide +kernel) ⟨Nat.le_of_ble_eq_true rfl, Nat.le_of_ble_eq_true rfl⟩) (pre_V hK hP hD 0 11 rfl rfl) rfl rfl hl.1 rfl (lv_room (Nat.le_of_ble_eq_true rfl)) dX11_sequence_135 ⟨Nat.le_of_ble_eq_true rfl, Nat.le_of_ble_eq_true rfl⟩) hP hD hS hA [0, 1, 2, 3, 4, 5, 6, 7, 8, 9, 10, 11, 12, 13, 14, 15, 16, 17, 18, 19, 20, 21, 22, 23, 24, 25] [] (by with_unfolding_all rfl) rfl (by decide) (by decide) (fun u_19 H locs hw hP hD hS => ?_)
              obtain ⟨r_19, y9_19⟩ := u_19
              have hP : va_P D vwCl (mX mm q jn cI x0 x1 x2 x3 x4 a5 a6 a7 a8 y9_19 a10 a11 a12 a13 a14 x15 x16 x17 x18 x19 x20 f0 f1 f2 q3 q4 q5 q6 q7 f8 f9 f10 f11 f12 f13 f14 f15 f16 f17 f18 f19 f20 f21 f22 f23 f24) H := hP
              have hD : va_D A (mX mm q jn cI x0 x1 x2 x3 x4 a5 a6 a7 a8 y9_19 a10 a11 a12 a13 a14 x15 x16 x17 x18 x19 x20 f0 f1 f2 q3 q4 q5 q6 q7 f8 f9 f10 f11 f12 f13 f14 f15 f16 f17 f18 f19 f20 f21 f22 f23 f24) := hD
              have hr_19 : (r_19.toInt = (1 : Int32).toInt) := hw
              refine lv_goto (tgt := 142) hx hb dX11_sequence_138 (by decide) ?_
              exact g_iret (r_19, a5, a6, a7, a8, y9_19, a10, a11, a12, a13, a14, q3, q4, q5, q6, q7) hx hb hr hlocks hS rfl (⟨show x5.toInt ≤ a5.toInt ∧ a5.toInt ≤ x2.toInt from (by first | assumption | omega), show TokOK a7 a8 from (by first | assumption | omega), show r_19.toInt = 0 → 0 ≤ a10.toInt ∧ a10.toInt ≤ 24 from (fun q => absurd q (by omega)), show r_19.toInt = 0 → CellsX jn q3 0 (6 * a10.toInt) from (fun q => absurd q (by omega)), show r_19.toInt = 0 → ZX jn q3 0 a10.toInt from (fun q => absurd q (by omega)), show (r_19.toInt = 0 ∧ SqR P ks vs E i a5 a7 a8 a10.toInt q3) ∨ (r_19.toInt ≠ 0 ∧ Fls ks vs E (Cf0 i)) from (Or.inr ⟨by omega, SI_F hJ (F_depth (by omega) (by omega) (by rw [← v2_]; exact isw_0 hb_14 (by omega)) (by omega))⟩)⟩) hP hD hQ (Nat.le_of_ble_eq_true rfl) (Nat.le_of_ble_eq_true rfl) dX11_sequence_142
      have join20 : ∀  (H : Heap) (locs : List Loc) (ls : Array Slot), (¬ (mt.toInt = 1 ∧ a7.toInt = 42)) → (¬ (io.toInt = 1 ∧ a7.toInt = 41 ∧ 0 < a11.toInt)) → (a7.toInt = 40 ∨ (7 ≤ a7.toInt ∧ a7.toInt ≤ 10)) → va_P D vwCl (mX mm q jn cI x0 x1 x2 x3 x4 a5 a6 a7 a8 a9 a10 a11 a12 a13 a14 x15 x16 x17 x18 x19 x20 f0 f1 f2 q3 q4 q5 q6 q7 f8 f9 f10 f11 f12 f13 f14 f15 f16 f17 f18 f19 f20 f21 f22 f23 f24) H → va_D A (mX mm q jn cI x0 x1 x2 x3 x4 a5 a6 a7 a8 a9 a10 a11 a12 a13 a14 x15 x16 x17 x18 x19 x20 f0 f1 f2 q3 q4 q5 q6 q7 f8 f9 f10 f11 f12 f13 f14 f15 f16 f17 f18 f19 f20 f21 f22 f23 f24) → va_S A s.heap H locs → lv_has ls 4 [(0, .ref mm), (1, .int mt), (2, .int io), (3, .int 0)] → W p l e ({ frames := 7, cells := 0, slots := 0, locals := 157 }) s m args below meth c H locs 0 0 Q (F0 m 99 ls []) := by
        intro  H locs ls hn46 hn76 hn99 hP hD hS hl
        refine lv_aload_n hx hb dX11_sequence_99 rfl (lv_at hl 0 rfl) ?_
        refine call_g (wr := []) (va_runV (As := []) (rest := []) ⟨hx, hb, hml, hown, hts⟩ (k_opens3 l D cI cR cM _ (P := P) (ks := ks) (vs := vs) (i := ic) (by first | assumption | omega) (by first | assumption | omega) (by first | assumption | omega) (by first | assumption | omega) (by first | assumption | omega) (by first | assumption | omega) (by first | assumption | omega) (by first | assumption | omega) (hJ.2.1)) (cwV 0 hts gX11_sequence_X11_opens rfl rfl rfl (by decide +kernel) ⟨Nat.le_of_ble_eq_true rfl, Nat.le_of_ble_eq_true rfl⟩) (pre_V hK hP hD 0 11 rfl rfl) rfl rfl hl.1 rfl (lv_room (Nat.le_of_ble_eq_true rfl)) dX11_sequence_100 ⟨Nat.le_of_ble_eq_true rfl, Nat.le_of_ble_eq_true rfl⟩) hP hD hS hA [0, 1, 2, 3, 4, 5, 6, 7, 8, 9, 10, 11, 12, 13, 14, 15, 16, 17, 18, 19, 20, 21, 22, 23, 24, 25] [] (by with_unfolding_all rfl) rfl (by decide) (by decide) (fun u_21 H locs hw hP hD hS => ?_)
        obtain ⟨r_21, y5_21, y6_21, y7_21, y8_21, y9_21, y11_21, g4_21, g5_21, g6_21⟩ := u_21
        have hP : va_P D vwCl (mX mm q jn cI x0 x1 x2 x3 x4 y5_21 y6_21 y7_21 y8_21 y9_21 a10 y11_21 a12 a13 a14 x15 x16 x17 x18 x19 x20 f0 f1 f2 q3 g4_21 g5_21 g6_21 q7 f8 f9 f10 f11 f12 f13 f14 f15 f16 f17 f18 f19 f20 f21 f22 f23 f24) H := hP
        have hD : va_D A (mX mm q jn cI x0 x1 x2 x3 x4 y5_21 y6_21 y7_21 y8_21 y9_21 a10 y11_21 a12 a13 a14 x15 x16 x17 x18 x19 x20 f0 f1 f2 q3 g4_21 g5_21 g6_21 q7 f8 f9 f10 f11 f12 f13 f14 f15 f16 f17 f18 f19 f20 f21 f22 f23 f24) := hD
        obtain ⟨ha_21, hT_21, hg_21, ho_21, h4_21, h5d_21, h6_21, hF_21⟩ : (a5.toInt ≤ y5_21.toInt ∧ y5_21.toInt ≤ x2.toInt) ∧ (TokOK y7_21 y8_21) ∧ (r_21.toInt = 0 → a5.toInt < y5_21.toInt ∨ y7_21.toInt = 0) ∧ (r_21.toInt = 0 → y11_21.toInt = a11.toInt + 1 ∧ y11_21.toInt ≤ 5) ∧ (r_21.toInt = 0 → (∀ i : Int, 0 ≤ i → i ≠ a11.toInt → g4_21 i.toNat = q4 i.toNat) ∧ ((g4_21 a11.toInt.toNat).toInt = 0 ∨ (7 ≤ (g4_21 a11.toInt.toNat).toInt ∧ (g4_21 a11.toInt.toNat).toInt ≤ 10))) ∧ (r_21.toInt = 0 → (∀ i : Int, 0 ≤ i → i ≠ a11.toInt → g5_21 i.toNat = q5 i.toNat) ∧ 0 ≤ (g5_21 a11.toInt.toNat).toInt ∧ (g5_21 a11.toInt.toNat).toInt ≤ 9) ∧ (r_21.toInt = 0 → (∀ i : Int, 0 ≤ i → i ≠ a11.toInt + 1 → g6_21 i.toNat = q6 i.toNat) ∧ g6_21 (a11.toInt + 1).toNat = a10) ∧ (Hd ((r_21.toInt = 0 ∧ a11.toInt < 5 ∧ ((ks ic = 40 ∧ CU P ks vs (ic + 1) y5_21 y7_21 y8_21 ∧ (g4_21 a11.toInt.toNat).toInt = 0 ∧ (g5_21 a11.toInt.toNat).toInt = 0) ∨ ((7 ≤ ks ic ∧ ks ic ≤ 9) ∧ ks (ic + 1) = 40 ∧ CU P ks vs (ic + 2) y5_21 y7_21 y8_21 ∧ (g4_21 a11.toInt.toNat).toInt = ks ic ∧ (g5_21 a11.toInt.toNat).toInt = 0) ∨ (ks ic = 10 ∧ ks (ic + 1) = 1 ∧ ks (ic + 2) = 40 ∧ CU P ks vs (ic + 3) y5_21 y7_21 y8_21 ∧ (g4_21 a11.toInt.toNat).toInt = 10 ∧ (g5_21 a11.toInt.toNat).toInt = vs (ic + 1)))) ∨ (r_21.toInt ≠ 0 ∧ ¬ (a11.toInt < 5 ∧ (ks ic = 40 ∨ ((7 ≤ ks ic ∧ ks ic ≤ 9) ∧ ks (ic + 1) = 40) ∨ (ks ic = 10 ∧ ks (ic + 1) = 1 ∧ ks (ic + 2) = 40)))))) := hw
        refine lv_istore_n (lv' := [(3, .int r_21), (0, .ref mm), (1, .int mt), (2, .int io)]) hx hb dX11_sequence_103 rfl hl (by decide) rfl (fun ls hl => ?_)
        refine lv_iconst (v := 0) hx hb dX11_sequence_104 (by decide) ?_
        refine lv_istore_n (lv' := [(2, .int 0), (3, .int r_21), (0, .ref mm), (1, .int mt)]) hx hb dX11_sequence_105 rfl hl (by decide) rfl (fun ls hl => ?_)
        refine lv_iconst (v := 0) hx hb dX11_sequence_106 (by decide) ?_
        refine lv_istore_n (lv' := [(1, .int 0), (2, .int 0), (3, .int r_21), (0, .ref mm)]) hx hb dX11_sequence_107 rfl hl (by decide) rfl (fun ls hl => ?_)
        refine lv_goto (tgt := 167) hx hb dX11_sequence_108 (by decide) ?_
        refine lv_iload_n hx hb dX11_sequence_167 rfl (lv_at hl 2 rfl) ?_
        refine a_if_eq (u := r_21.toInt) (tgt := 173) hx hb dX11_sequence_168 (by decide) (rfl) (fun c_22 => ?_) (fun c_22 => ?_)
        · refine lv_goto (tgt := 21) hx hb dX11_sequence_173 (by decide) ?_
          have hz_23 : (0 : Int32).toInt = 0 := by decide
          have hz_24 : (0 : Int32).toInt = 0 := by decide
          exact ih21 (0 : Int32) (0 : Int32) y5_21 y6_21 y7_21 y8_21 y9_21 a10 y11_21 a12 a13 a14 q3 g4_21 g5_21 g6_21 q7 _ _ _ (by omega) (by first | assumption | omega) (by first | assumption | omega) (by first | assumption | omega) (by first | assumption | omega) (by first | assumption | omega) (by rw [show y11_21.toInt = a11.toInt + 1 by omega]; exact sq_push (t := a10.toInt) hSq (by omega) (h6_21 (by omega)).1 (by rw [(h6_21 (by omega)).2]) (by omega) (by omega)) (by rw [show y11_21.toInt = a11.toInt + 1 by omega, (h6_21 (by omega)).2]; omega) (by rw [show y11_21.toInt = a11.toInt + 1 by omega]; exact og_push hO (h4_21 (by omega)).1 (h5d_21 (by omega)).1 (h4_21 (by omega)).2 (h5d_21 (by omega)).2) (by first | assumption | omega) (hC) (hZ) (by
            have t1 := or_T hF_21 (by omega)
            exact seq_opens hJ (by omega) (by omega) (by omega) (by decide) (by decide) (ho_21 (by omega)).1 (h4_21 (by omega)).1 (h5d_21 (by omega)).1 (h6_21 (by omega)) t1) hP hD hS (lv_sub hl [3, 0, 1] rfl)
        · refine lv_iload_n hx hb dX11_sequence_171 rfl (lv_at hl 2 rfl) ?_
          exact g_iret (r_21, y5_21, y6_21, y7_21, y8_21, y9_21, a10, y11_21, a12, a13, a14, q3, g4_21, g5_21, g6_21, q7) hx hb hr hlocks hS rfl (⟨show x5.toInt ≤ y5_21.toInt ∧ y5_21.toInt ≤ x2.toInt from (by first | assumption | omega), show TokOK y7_21 y8_21 from (by first | assumption | omega), show r_21.toInt = 0 → 0 ≤ a10.toInt ∧ a10.toInt ≤ 24 from (fun q => absurd q (by omega)), show r_21.toInt = 0 → CellsX jn q3 0 (6 * a10.toInt) from (fun q => absurd q (by omega)), show r_21.toInt = 0 → ZX jn q3 0 a10.toInt from (fun q => absurd q (by omega)), show (r_21.toInt = 0 ∧ SqR P ks vs E i y5_21 y7_21 y8_21 a10.toInt q3) ∨ (r_21.toInt ≠ 0 ∧ Fls ks vs E (Cf0 i)) from (Or.inr ⟨by omega, SI_F hJ (F_opens (by omega) (or_F hF_21 (by omega)))⟩)⟩) hP hD hQ (Nat.le_of_ble_eq_true rfl) (Nat.le_of_ble_eq_true rfl) dX11_sequence_172
      have join25 : ∀  (H : Heap) (locs : List Loc) (ls : Array Slot), (¬ (mt.toInt = 1 ∧ a7.toInt = 42)) → (¬ (io.toInt = 1 ∧ a7.toInt = 41 ∧ 0 < a11.toInt)) → va_P D vwCl (mX mm q jn cI x0 x1 x2 x3 x4 a5 a6 a7 a8 a9 a10 a11 a12 a13 a14 x15 x16 x17 x18 x19 x20 f0 f1 f2 q3 q4 q5 q6 q7 f8 f9 f10 f11 f12 f13 f14 f15 f16 f17 f18 f19 f20 f21 f22 f23 f24) H → va_D A (mX mm q jn cI x0 x1 x2 x3 x4 a5 a6 a7 a8 a9 a10 a11 a12 a13 a14 x15 x16 x17 x18 x19 x20 f0 f1 f2 q3 q4 q5 q6 q7 f8 f9 f10 f11 f12 f13 f14 f15 f16 f17 f18 f19 f20 f21 f22 f23 f24) → va_S A s.heap H locs → lv_has ls 4 [(0, .ref mm), (1, .int mt), (2, .int io), (3, .int 0)] → W p l e ({ frames := 7, cells := 0, slots := 0, locals := 157 }) s m args below meth c H locs 0 0 Q (F0 m 76 ls []) := by
        intro  H locs ls hn46 hn76 hP hD hS hl
        refine lv_aload_n hx hb dX11_sequence_76 rfl (lv_at hl 0 rfl) ?_
        refine va_get (D := D) (ci := 11) (v := .int a7) (C := RX11) (T := TX11) (N := 47) hx hb hts (by decide +kernel) hown hK.1 hP 0 rfl rfl 11 (by decide) (hts (.fieldLink RX11 131 "JugglingHallModel" "token" "I") (by decide +kernel)) (fun _ h9 => h9) rfl dX11_sequence_77 ?_
        refine lv_bipush (v := 40) hx hb dX11_sequence_80 (by decide) ?_
        refine a_icmp_eq (u := a7.toInt) (v := 40) (tgt := 99) hx hb dX11_sequence_82 (by decide) (rfl) (by decide) (fun c_26 => ?_) (fun c_26 => ?_)
        · exact join20  _ _ _ (by first | assumption | omega) (by first | assumption | omega) (by first | assumption | omega) hP hD hS (lv_sub hl [0, 1, 2, 3] rfl)
        · refine lv_aload_n hx hb dX11_sequence_85 rfl (lv_at hl 0 rfl) ?_
          refine va_get (D := D) (ci := 11) (v := .int a7) (C := RX11) (T := TX11) (N := 47) hx hb hts (by decide +kernel) hown hK.1 hP 0 rfl rfl 11 (by decide) (hts (.fieldLink RX11 131 "JugglingHallModel" "token" "I") (by decide +kernel)) (fun _ h9 => h9) rfl dX11_sequence_86 ?_
          refine lv_bipush (v := 7) hx hb dX11_sequence_89 (by decide) ?_
          refine lv_bipush (v := 10) hx hb dX11_sequence_91 (by decide) ?_
          have hz_27 : (7 : Int32).toInt = 7 := by decide
          have hz_28 : (10 : Int32).toInt = 10 := by decide
          refine roP (va_runS (As := [.int a7, .int 7, .int 10]) (rest := []) ⟨hx, hb, hml, hown, hts⟩ (k_isIn l D cI cR cM _  ) (va_cwS 3 hts gX11_sequence_X11_isIn rfl rfl rfl (by decide +kernel) ⟨Nat.le_of_ble_eq_true rfl, Nat.le_of_ble_eq_true rfl⟩) (pre_S hK va_P_nil (va_D_nil (A := fun _ => True))) rfl rfl hl.1 rfl (lv_room (Nat.le_of_ble_eq_true rfl)) dX11_sequence_93 ⟨Nat.le_of_ble_eq_true rfl, Nat.le_of_ble_eq_true rfl⟩) hS hA hP (fun r_29 H locs hw hP hS => ?_)
          have h_29 : ((r_29.toInt = 1 ∧ (7 : Int32).toInt ≤ a7.toInt ∧ a7.toInt ≤ (10 : Int32).toInt) ∨ (r_29.toInt = 0 ∧ (a7.toInt < (7 : Int32).toInt ∨ (10 : Int32).toInt < a7.toInt))) := hw
          refine a_if_eq (u := r_29.toInt) (tgt := 111) hx hb dX11_sequence_96 (by decide) (rfl) (fun c_30 => ?_) (fun c_30 => ?_)
          · exact join12  _ _ _ (by first | assumption | omega) (by first | assumption | omega) (by first | assumption | omega) hP hD hS (lv_sub hl [0, 1, 2, 3] rfl)
          · exact join20  _ _ _ (by first | assumption | omega) (by first | assumption | omega) (by first | assumption | omega) hP hD hS (lv_sub hl [0, 1, 2, 3] rfl)
      have join31 : ∀  (H : Heap) (locs : List Loc) (ls : Array Slot), (¬ (mt.toInt = 1 ∧ a7.toInt = 42)) → va_P D vwCl (mX mm q jn cI x0 x1 x2 x3 x4 a5 a6 a7 a8 a9 a10 a11 a12 a13 a14 x15 x16 x17 x18 x19 x20 f0 f1 f2 q3 q4 q5 q6 q7 f8 f9 f10 f11 f12 f13 f14 f15 f16 f17 f18 f19 f20 f21 f22 f23 f24) H → va_D A (mX mm q jn cI x0 x1 x2 x3 x4 a5 a6 a7 a8 a9 a10 a11 a12 a13 a14 x15 x16 x17 x18 x19 x20 f0 f1 f2 q3 q4 q5 q6 q7 f8 f9 f10 f11 f12 f13 f14 f15 f16 f17 f18 f19 f20 f21 f22 f23 f24) → va_S A s.heap H locs → lv_has ls 4 [(0, .ref mm), (1, .int mt), (2, .int io), (3, .int 0)] → W p l e ({ frames := 7, cells := 0, slots := 0, locals := 157 }) s m args below meth c H locs 0 0 Q (F0 m 46 ls []) := by
        intro  H locs ls hn46 hP hD hS hl
        refine lv_iload_n hx hb dX11_sequence_46 rfl (lv_at hl 2 rfl) ?_
        refine a_if_eq (u := io.toInt) (tgt := 76) hx hb dX11_sequence_47 (by decide) (rfl) (fun c_32 => ?_) (fun c_32 => ?_)
        · exact join25  _ _ _ (by first | assumption | omega) (by first | assumption | omega) hP hD hS (lv_sub hl [0, 1, 2, 3] rfl)
        · refine lv_aload_n hx hb dX11_sequence_50 rfl (lv_at hl 0 rfl) ?_
          refine va_get (D := D) (ci := 11) (v := .int a7) (C := RX11) (T := TX11) (N := 47) hx hb hts (by decide +kernel) hown hK.1 hP 0 rfl rfl 11 (by decide) (hts (.fieldLink RX11 131 "JugglingHallModel" "token" "I") (by decide +kernel)) (fun _ h9 => h9) rfl dX11_sequence_51 ?_
          refine lv_bipush (v := 41) hx hb dX11_sequence_54 (by decide) ?_
          refine a_icmp_ne (u := a7.toInt) (v := 41) (tgt := 76) hx hb dX11_sequence_56 (by decide) (rfl) (by decide) (fun c_33 => ?_) (fun c_33 => ?_)
          · exact join25  _ _ _ (by first | assumption | omega) (by first | assumption | omega) hP hD hS (lv_sub hl [0, 1, 2, 3] rfl)
          · refine lv_aload_n hx hb dX11_sequence_59 rfl (lv_at hl 0 rfl) ?_
            refine va_get (D := D) (ci := 11) (v := .int a11) (C := RX11) (T := TX11) (N := 47) hx hb hts (by decide +kernel) hown hK.1 hP 0 rfl rfl 20 (by decide) (hts (.fieldLink RX11 154 "JugglingHallModel" "depth" "I") (by decide +kernel)) (fun _ h9 => h9) rfl dX11_sequence_60 ?_
            refine a_if_le (u := a11.toInt) (tgt := 76) hx hb dX11_sequence_63 (by decide) (rfl) (fun c_34 => ?_) (fun c_34 => ?_)
            · exact join25  _ _ _ (by first | assumption | omega) (by first | assumption | omega) hP hD hS (lv_sub hl [0, 1, 2, 3] rfl)
            · refine lv_aload_n hx hb dX11_sequence_66 rfl (lv_at hl 0 rfl) ?_
              refine call_g (wr := []) (va_runV (As := []) (rest := []) ⟨hx, hb, hml, hown, hts⟩ (k_closes3 l D cI cR cM _ (P := P) (ks := ks) (vs := vs) (i := ic) (w9 := w9) (by first | assumption | omega) (by first | assumption | omega) (by first | assumption | omega) (by first | assumption | omega) (by first | assumption | omega) (by first | assumption | omega) (by have h9 := hSq.2 (a11.toInt - 1) (by omega) (by omega); rw [show a11.toInt - 1 + 1 = a11.toInt by omega] at h9; have h8 := sq_bd hSq (a11.toInt - 1) (by omega) (by omega); omega) (by first | assumption | omega) ((hO (a11.toInt - 1) (by omega) (by omega)).1) ((hO (a11.toInt - 1) (by omega) (by omega)).2) (by first | assumption | omega) (by first | assumption | omega) (by first | assumption | omega) (by first | assumption | omega) (hJ.2.1) (hJ.2.2.1) (fun b9 h8 h9 => (hJ.2.2.2.1 b9 h8 h9).1) (by rw [hJ.2.2.2.2.1 a11.toInt (by omega) (Int.le_refl _)]; exact hJ.2.2.2.2.2.2.2 (by omega))) (cwV 0 hts gX11_sequence_X11_closes rfl rfl rfl (by decide +kernel) ⟨Nat.le_of_ble_eq_true rfl, Nat.le_of_ble_eq_true rfl⟩) (pre_V hK hP hD 0 11 rfl rfl) rfl rfl hl.1 rfl (lv_room (Nat.le_of_ble_eq_true rfl)) dX11_sequence_67 ⟨Nat.le_of_ble_eq_true rfl, Nat.le_of_ble_eq_true rfl⟩) hP hD hS hA [0, 1, 2, 3, 4, 5, 6, 7, 8, 9, 10, 11, 12, 13, 14, 15, 16, 17, 18, 19, 20, 21, 22, 23, 24, 25] [] (by with_unfolding_all rfl) rfl (by decide) (by decide) (fun u_35 H locs hw hP hD hS => ?_)
              obtain ⟨r_35, y5_35, y6_35, y7_35, y8_35, y9_35, y11_35, y12_35, g3_35, g7_35⟩ := u_35
              have hP : va_P D vwCl (mX mm q jn cI x0 x1 x2 x3 x4 y5_35 y6_35 y7_35 y8_35 y9_35 a10 y11_35 y12_35 a13 a14 x15 x16 x17 x18 x19 x20 f0 f1 f2 g3_35 q4 q5 q6 g7_35 f8 f9 f10 f11 f12 f13 f14 f15 f16 f17 f18 f19 f20 f21 f22 f23 f24) H := hP
              have hD : va_D A (mX mm q jn cI x0 x1 x2 x3 x4 y5_35 y6_35 y7_35 y8_35 y9_35 a10 y11_35 y12_35 a13 a14 x15 x16 x17 x18 x19 x20 f0 f1 f2 g3_35 q4 q5 q6 g7_35 f8 f9 f10 f11 f12 f13 f14 f15 f16 f17 f18 f19 f20 f21 f22 f23 f24) := hD
              obtain ⟨ha_35, hT_35, hg_35, hb_35, hm_35, hC_35, hZ_35, hF_35⟩ : (a5.toInt ≤ y5_35.toInt ∧ y5_35.toInt ≤ x2.toInt) ∧ (TokOK y7_35 y8_35) ∧ (r_35.toInt = 0 → a5.toInt < y5_35.toInt ∨ y7_35.toInt = 0) ∧ (r_35.toInt = 0 → y11_35.toInt = a11.toInt - 1 ∧ y12_35.toInt = (q6 a11.toInt.toNat).toInt) ∧ (r_35.toInt = 0 → a10.toInt - (q6 (a11.toInt - 1).toNat).toInt ≤ 24) ∧ (r_35.toInt = 0 → CellsX jn g3_35 0 (6 * a10.toInt)) ∧ (r_35.toInt = 0 → ZX jn g3_35 0 a10.toInt) ∧ (Hd (Hd ((r_35.toInt = 0 ∧ a10.toInt - (q6 (a11.toInt - 1).toNat).toInt ≤ 24 ∧ CU P ks vs (ic + 1) y5_35 y7_35 y8_35 ∧ ∃ v9, ChW (q4 (a11.toInt - 1).toNat).toInt (q5 (a11.toInt - 1).toNat).toInt w9 (q6 a11.toInt.toNat).toInt (a10.toInt - (q6 a11.toInt.toNat).toInt) v9 ∧ RS g3_35 v9 a10.toInt) ∨ (r_35.toInt ≠ 0 ∧ (24 < a10.toInt - (q6 (a11.toInt - 1).toNat).toInt ∨ ChF (q4 (a11.toInt - 1).toNat).toInt w9 (q6 a11.toInt.toNat).toInt (a10.toInt - (q6 a11.toInt.toNat).toInt)))))) := hw
              refine lv_istore_n (lv' := [(3, .int r_35), (0, .ref mm), (1, .int mt), (2, .int io)]) hx hb dX11_sequence_70 rfl hl (by decide) rfl (fun ls hl => ?_)
              refine lv_iconst (v := 1) hx hb dX11_sequence_71 (by decide) ?_
              refine lv_istore_n (lv' := [(1, .int 1), (3, .int r_35), (0, .ref mm), (2, .int io)]) hx hb dX11_sequence_72 rfl hl (by decide) rfl (fun ls hl => ?_)
              refine lv_goto (tgt := 167) hx hb dX11_sequence_73 (by decide) ?_
              refine lv_iload_n hx hb dX11_sequence_167 rfl (lv_at hl 1 rfl) ?_
              refine a_if_eq (u := r_35.toInt) (tgt := 173) hx hb dX11_sequence_168 (by decide) (rfl) (fun c_36 => ?_) (fun c_36 => ?_)
              · refine lv_goto (tgt := 21) hx hb dX11_sequence_173 (by decide) ?_
                have hz_37 : (1 : Int32).toInt = 1 := by decide
                exact ih21 (1 : Int32) io y5_35 y6_35 y7_35 y8_35 y9_35 a10 y11_35 y12_35 a13 a14 g3_35 q4 q5 q6 g7_35 _ _ _ (by omega) (by first | assumption | omega) (by first | assumption | omega) (by first | assumption | omega) (by first | assumption | omega) (by first | assumption | omega) (by rw [show y11_35.toInt = a11.toInt - 1 by omega]; exact ⟨hSq.1, fun k9 h8 h9 => hSq.2 k9 h8 (by omega)⟩) (by have h9 := hSq.2 (a11.toInt - 1) (by omega) (by omega); rw [show a11.toInt - 1 + 1 = a11.toInt by omega] at h9; have h8 := hm_35 (by omega); rw [show y11_35.toInt = a11.toInt - 1 by omega]; omega) (by rw [show y11_35.toInt = a11.toInt - 1 by omega]; exact fun k9 h8 h9 => hO k9 h8 (by omega)) (by first | assumption | omega) (hC_35 (by omega)) (hZ_35 (by omega)) (by
                  obtain ⟨t1, t2, v9, t3, t4⟩ := or_T hF_35 (by omega)
                  have t5 := hb_35 (by omega)
                  have t6 : 0 ≤ (q6 (a11.toInt - 1).toNat).toInt ∧ (q6 (a11.toInt - 1).toNat).toInt ≤ (q6 a11.toInt.toNat).toInt ∧ (q6 a11.toInt.toNat).toInt ≤ a10.toInt := by have h9 := hSq.2 (a11.toInt - 1) (by omega) (by omega); rw [show a11.toInt - 1 + 1 = a11.toInt by omega] at h9; have h8 := sq_bd hSq (a11.toInt - 1) (by omega) (by omega); omega
                  exact seq_closes hJ (by omega) (by omega) (by omega) (by omega) (by decide) (by omega) t5.1 t5.2 ⟨t6.1, t6.2.1⟩ t1 t2 t3 t4) hP hD hS (lv_sub hl [2, 0, 3] rfl)
              · refine lv_iload_n hx hb dX11_sequence_171 rfl (lv_at hl 1 rfl) ?_
                exact g_iret (r_35, y5_35, y6_35, y7_35, y8_35, y9_35, a10, y11_35, y12_35, a13, a14, g3_35, q4, q5, q6, g7_35) hx hb hr hlocks hS rfl (⟨show x5.toInt ≤ y5_35.toInt ∧ y5_35.toInt ≤ x2.toInt from (by first | assumption | omega), show TokOK y7_35 y8_35 from (by first | assumption | omega), show r_35.toInt = 0 → 0 ≤ a10.toInt ∧ a10.toInt ≤ 24 from (fun q => absurd q (by omega)), show r_35.toInt = 0 → CellsX jn g3_35 0 (6 * a10.toInt) from (fun q => absurd q (by omega)), show r_35.toInt = 0 → ZX jn g3_35 0 a10.toInt from (fun q => absurd q (by omega)), show (r_35.toInt = 0 ∧ SqR P ks vs E i y5_35 y7_35 y8_35 a10.toInt g3_35) ∨ (r_35.toInt ≠ 0 ∧ Fls ks vs E (Cf0 i)) from (by
                  have e1 := hJ.2.2.2.2.1 a11.toInt (by omega) (Int.le_refl _)
                  have e0 := hJ.2.2.2.2.1 (a11.toInt - 1) (by omega) (by omega)
                  have e4 := (hJ.2.2.2.2.2.1 (a11.toInt - 1) (by omega) (by omega)).1
                  have e3 := or_F hF_35 (by omega)
                  rw [e0, e1, e4] at e3
                  exact Or.inr ⟨by omega, SI_F hJ (F_closes (by omega) (by omega) (by omega) e3)⟩)⟩) hP hD hQ (Nat.le_of_ble_eq_true rfl) (Nat.le_of_ble_eq_true rfl) dX11_sequence_172
      refine lv_iload_n hx hb dX11_sequence_23 rfl (lv_at hl 2 rfl) ?_
      refine a_if_eq (u := mt.toInt) (tgt := 46) hx hb dX11_sequence_24 (by decide) (rfl) (fun c_38 => ?_) (fun c_38 => ?_)
      · exact join31  _ _ _ (by first | assumption | omega) hP hD hS (lv_sub hl [1, 2, 3, 0] rfl)
      · refine lv_aload_n hx hb dX11_sequence_27 rfl (lv_at hl 1 rfl) ?_
        refine va_get (D := D) (ci := 11) (v := .int a7) (C := RX11) (T := TX11) (N := 47) hx hb hts (by decide +kernel) hown hK.1 hP 0 rfl rfl 11 (by decide) (hts (.fieldLink RX11 131 "JugglingHallModel" "token" "I") (by decide +kernel)) (fun _ h9 => h9) rfl dX11_sequence_28 ?_
        refine lv_bipush (v := 42) hx hb dX11_sequence_31 (by decide) ?_
        refine a_icmp_ne (u := a7.toInt) (v := 42) (tgt := 46) hx hb dX11_sequence_33 (by decide) (rfl) (by decide) (fun c_39 => ?_) (fun c_39 => ?_)
        · exact join31  _ _ _ (by first | assumption | omega) hP hD hS (lv_sub hl [1, 2, 3, 0] rfl)
        · refine lv_aload_n hx hb dX11_sequence_36 rfl (lv_at hl 1 rfl) ?_
          refine call_g (wr := []) (va_runV (As := []) (rest := []) ⟨hx, hb, hml, hown, hts⟩ (k_times3 l D cI cR cM _ (P := P) (ks := ks) (vs := vs) (i := ic) (by first | assumption | omega) (by first | assumption | omega) (by first | assumption | omega) (by first | assumption | omega) (by first | assumption | omega) (by first | assumption | omega) (by first | assumption | omega) (by first | assumption | omega) (by first | assumption | omega) (by first | assumption | omega) (by first | assumption | omega) (by first | assumption | omega) (by first | assumption | omega) (hJ.2.1)) (cwV 0 hts gX11_sequence_X11_times rfl rfl rfl (by decide +kernel) ⟨Nat.le_of_ble_eq_true rfl, Nat.le_of_ble_eq_true rfl⟩) (pre_V hK hP hD 0 11 rfl rfl) rfl rfl hl.1 rfl (lv_room (Nat.le_of_ble_eq_true rfl)) dX11_sequence_37 ⟨Nat.le_of_ble_eq_true rfl, Nat.le_of_ble_eq_true rfl⟩) hP hD hS hA [0, 1, 2, 3, 4, 5, 6, 7, 8, 9, 10, 11, 12, 13, 14, 15, 16, 17, 18, 19, 20, 21, 22, 23, 24, 25] [] (by with_unfolding_all rfl) rfl (by decide) (by decide) (fun u_40 H locs hw hP hD hS => ?_)
          obtain ⟨r_40, y5_40, y6_40, y7_40, y8_40, y9_40, y10_40, g3_40⟩ := u_40
          have hP : va_P D vwCl (mX mm q jn cI x0 x1 x2 x3 x4 y5_40 y6_40 y7_40 y8_40 y9_40 y10_40 a11 a12 a13 a14 x15 x16 x17 x18 x19 x20 f0 f1 f2 g3_40 q4 q5 q6 q7 f8 f9 f10 f11 f12 f13 f14 f15 f16 f17 f18 f19 f20 f21 f22 f23 f24) H := hP
          have hD : va_D A (mX mm q jn cI x0 x1 x2 x3 x4 y5_40 y6_40 y7_40 y8_40 y9_40 y10_40 a11 a12 a13 a14 x15 x16 x17 x18 x19 x20 f0 f1 f2 g3_40 q4 q5 q6 q7 f8 f9 f10 f11 f12 f13 f14 f15 f16 f17 f18 f19 f20 f21 f22 f23 f24) := hD
          obtain ⟨ha_40, hT_40, hg_40, hb_40, hm_40, hC_40, hZ_40, hF_40⟩ : (a5.toInt ≤ y5_40.toInt ∧ y5_40.toInt ≤ x2.toInt) ∧ (TokOK y7_40 y8_40) ∧ (r_40.toInt = 0 → a5.toInt < y5_40.toInt ∨ y7_40.toInt = 0) ∧ (r_40.toInt = 0 → a10.toInt ≤ y10_40.toInt) ∧ (r_40.toInt = 0 → y10_40.toInt - (q6 a11.toInt.toNat).toInt ≤ 24) ∧ (r_40.toInt = 0 → CellsX jn g3_40 0 (6 * y10_40.toInt)) ∧ (r_40.toInt = 0 → ZX jn g3_40 0 y10_40.toInt) ∧ (Hd ((r_40.toInt = 0 ∧ (ks (ic + 1) = 1 ∧ vs (ic + 1) ≠ 0 ∧ a10.toInt - (q6 a11.toInt.toNat).toInt + (vs (ic + 1) - 1) * (a10.toInt - a12.toInt) ≤ 24) ∧ CU P ks vs (ic + 2) y5_40 y7_40 y8_40 ∧ y10_40.toInt = a10.toInt + (vs (ic + 1) - 1) * (a10.toInt - a12.toInt) ∧ (∀ i9 : Int, 0 ≤ i9 → i9 < 6 * a10.toInt → g3_40 i9.toNat = q3 i9.toNat) ∧ ∀ i9 : Int, 0 ≤ i9 → i9 < 6 * (y10_40.toInt - a10.toInt) → g3_40 (6 * a10.toInt + i9).toNat = g3_40 (6 * a12.toInt + i9).toNat) ∨ (r_40.toInt ≠ 0 ∧ ¬ (ks (ic + 1) = 1 ∧ vs (ic + 1) ≠ 0 ∧ a10.toInt - (q6 a11.toInt.toNat).toInt + (vs (ic + 1) - 1) * (a10.toInt - a12.toInt) ≤ 24)))) := hw
          refine lv_istore_n (lv' := [(3, .int r_40), (0, .ref mm), (1, .int mt), (2, .int io)]) hx hb dX11_sequence_40 rfl hl (by decide) rfl (fun ls hl => ?_)
          refine lv_iconst (v := 0) hx hb dX11_sequence_41 (by decide) ?_
          refine lv_istore_n (lv' := [(1, .int 0), (3, .int r_40), (0, .ref mm), (2, .int io)]) hx hb dX11_sequence_42 rfl hl (by decide) rfl (fun ls hl => ?_)
          refine lv_goto (tgt := 167) hx hb dX11_sequence_43 (by decide) ?_
          refine lv_iload_n hx hb dX11_sequence_167 rfl (lv_at hl 1 rfl) ?_
          refine a_if_eq (u := r_40.toInt) (tgt := 173) hx hb dX11_sequence_168 (by decide) (rfl) (fun c_41 => ?_) (fun c_41 => ?_)
          · refine lv_goto (tgt := 21) hx hb dX11_sequence_173 (by decide) ?_
            have hz_42 : (0 : Int32).toInt = 0 := by decide
            exact ih21 (0 : Int32) io y5_40 y6_40 y7_40 y8_40 y9_40 y10_40 a11 a12 a13 a14 g3_40 q4 q5 q6 q7 _ _ _ (by omega) (by first | assumption | omega) (by first | assumption | omega) (by first | assumption | omega) (by first | assumption | omega) (by first | assumption | omega) (hSq) (by have h8 := hm_40 (by omega); have h9 := hb_40 (by omega); omega) (hO) (by first | assumption | omega) (hC_40 (by omega)) (hZ_40 (by omega)) (by
              obtain ⟨t1, t2, t3, t4, t5⟩ := or_T hF_40 (by omega)
              exact seq_times hJ (by omega) (by omega) (by omega) ((TkR_k (hSM.2 (ic + 1)).choose_spec).2.2.1 t1.1).1 (by decide) t1 t2 t3 t4 t5) hP hD hS (lv_sub hl [2, 0, 3] rfl)
          · refine lv_iload_n hx hb dX11_sequence_171 rfl (lv_at hl 1 rfl) ?_
            exact g_iret (r_40, y5_40, y6_40, y7_40, y8_40, y9_40, y10_40, a11, a12, a13, a14, g3_40, q4, q5, q6, q7) hx hb hr hlocks hS rfl (⟨show x5.toInt ≤ y5_40.toInt ∧ y5_40.toInt ≤ x2.toInt from (by first | assumption | omega), show TokOK y7_40 y8_40 from (by first | assumption | omega), show r_40.toInt = 0 → 0 ≤ y10_40.toInt ∧ y10_40.toInt ≤ 24 from (fun q => absurd q (by omega)), show r_40.toInt = 0 → CellsX jn g3_40 0 (6 * y10_40.toInt) from (fun q => absurd q (by omega)), show r_40.toInt = 0 → ZX jn g3_40 0 y10_40.toInt from (fun q => absurd q (by omega)), show (r_40.toInt = 0 ∧ SqR P ks vs E i y5_40 y7_40 y8_40 y10_40.toInt g3_40) ∨ (r_40.toInt ≠ 0 ∧ Fls ks vs E (Cf0 i)) from (by
              have e1 := hJ.2.2.2.2.1 a11.toInt (by omega) (Int.le_refl _)
              have e2 := (hJ.2.2.2.2.2.2.1 (by omega)).1
              have e3 := or_F hF_40 (by omega)
              rw [e1, ← e2] at e3
              exact Or.inr ⟨by omega, SI_F hJ (F_times (by omega) (by omega) e3)⟩)⟩) hP hD hQ (Nat.le_of_ble_eq_true rfl) (Nat.le_of_ble_eq_true rfl) dX11_sequence_172
  have hz_43 : (0 : Int32).toInt = 0 := by decide
  have hz_44 : (0 : Int32).toInt = 0 := by decide
  have hz_45 : (0 : Int32).toInt = 0 := by decide
  have hz_46 : (0 : Int32).toInt = 0 := by decide
  exact loop21 ((2 * (x2.toInt - x5.toInt) + (if x7.toInt = 0 then 0 else 1)).toNat + 1) (0 : Int32) (0 : Int32) x5 x6 x7 x8 x9 (0 : Int32) (0 : Int32) x12 x13 x14 f3 f4 f5 g_1 f7 _ _ _ (by omega) (by first | assumption | omega) (by first | assumption | omega) (by first | assumption | omega) (by first | assumption | omega) (by first | assumption | omega) (by rw [show (0 : Int32).toInt = 0 from rfl]; exact ⟨by rw [eg_1, pk_us]; rfl, fun k9 h8 h9 => absurd h9 (by omega)⟩) (by have h9 : (g_1 ((0 : Int32).toInt).toNat).toInt = 0 := (by rw [show ((0 : Int32).toInt).toNat = (0 : Int).toNat from rfl, eg_1, pk_us]; rfl); omega) (fun k9 h8 h9 => absurd h9 (by rw [show (0 : Int32).toInt = 0 from rfl]; omega)) (by first | assumption | omega) (by rw [show (0 : Int32).toInt = 0 from rfl]; exact ⟨fun i9 h8 h9 => absurd h9 (by omega), fun k9 h8 h9 => absurd h9 (by omega)⟩) (fun b9 x9 b0 b1 => absurd b1 (by rw [show (0 : Int32).toInt = 0 from rfl]; omega)) (⟨i, 0, _, _, _, _, SI_0 hCU (by rw [eg_1, pk_us]; rfl)⟩) hP hD hS (lv_sub hl [2, 1, 0] rfl)
