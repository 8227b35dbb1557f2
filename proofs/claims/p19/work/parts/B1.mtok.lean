set_option maxRecDepth 100000 in
set_option maxHeartbeats 4000000 in
theorem k_see2 (l : Launch) (D : va_G) (cI cR cM : ClassId) (sz : Nat) {jn mm : Nat} {q : Nat → Nat} {x0 x1 x2 x3 x4 x5 x6 x7 x8 x9 x10 x11 x12 x13 x14 x15 x16 x17 x18 x19 x20 : Int32} {f0 f1 f2 f3 f4 f5 f6 f7 f8 f9 f10 f11 f12 f13 f14 f15 f16 f17 f18 f19 f20 f21 f22 f23 f24 : Nat → Int32} {k : Int32}  (h1 : 0 ≤ k.toInt) (h2 : x2.toInt ≤ 300) : Met l yX11_see wsX11_see ({ frames := 0, cells := 0, slots := 0, locals := 0 }) (P0 D cI cR cM [.ref mm, .int k] sz (mX mm q jn cI x0 x1 x2 x3 x4 x5 x6 x7 x8 x9 x10 x11 x12 x13 x14 x15 x16 x17 x18 x19 x20 f0 f1 f2 f3 f4 f5 f6 f7 f8 f9 f10 f11 f12 f13 f14 f15 f16 f17 f18 f19 f20 f21 f22 f23 f24)) (QP (fun r => (r.toInt = sE f2 x2.toInt k.toInt)) sz) 0 0 (va_A [] sz) := by
  refine go (cc := cX11_see) (maxL := 2) (ret := (some .int)) (by decide) rfl (Nat.le_of_ble_eq_true rfl) ?_
  intro p e s m below meth c ls args Q hQ hsz hx hb hr hml hts hown hlocks hnm hP hK hD hl
  subst hsz
  have hS : va_S (va_A [] s.heap.size) s.heap s.heap [] := va_S.rf
  have hA : ∀ q, s.heap.size ≤ q → va_A [] s.heap.size q := fun q h => Or.inr h
  have hl : lv_has ls 2 [(0, .ref mm), (1, .int k)] := hl
  refine lv_iload_n hx hb dX11_see_0 rfl (lv_at hl 1 rfl) ?_
  refine lv_aload_n hx hb dX11_see_1 rfl (lv_at hl 0 rfl) ?_
  refine va_get (D := D) (ci := 11) (v := .int x2) (C := RX11) (T := TX11) (N := 47) hx hb hts (by decide +kernel) hown hK.1 hP 0 rfl rfl 6 (by decide) (hts (.fieldLink RX11 110 "JugglingHallModel" "taped" "I") (by decide +kernel)) (fun _ h9 => h9) rfl dX11_see_2 ?_
  refine a_icmp_ge (u := k.toInt) (v := x2.toInt) (tgt := 17) hx hb dX11_see_5 (by decide) (rfl) (rfl) (fun c_1 => ?_) (fun c_1 => ?_)
  · refine lv_iconst (v := (-1)) hx hb dX11_see_17 (by decide) ?_
    have hz_2 : (-1 : Int32).toInt = (-1) := by decide
    exact rp_iret hx hb hr hlocks hS (show (-1 : Int32).toInt = sE f2 x2.toInt k.toInt from (by rw [sE_out (by omega)]; omega)) hQ dX11_see_18
  · refine lv_aload_n hx hb dX11_see_8 rfl (lv_at hl 0 rfl) ?_
    refine va_get (D := D) (ci := 11) (v := .ref (q 2)) (C := RX11) (T := TX11) (N := 47) hx hb hts (by decide +kernel) hown hK.1 hP 0 rfl rfl 5 (by decide) (hts (.fieldLink RX11 17 "JugglingHallModel" "tape" "[I") (by decide +kernel)) (fun _ h9 => h9) rfl dX11_see_9 ?_
    refine lv_iload_n hx hb dX11_see_12 rfl (lv_at hl 1 rfl) ?_
    refine a_iald (f := f2) (u := k.toInt) hx hb hK.1 hP 3 0 rfl rfl dX11_see_13 (rfl) (by omega) (fun z_3 q_3 e_3 => ?_)
    refine lv_goto (tgt := 18) hx hb dX11_see_14 (by decide) ?_
    exact rp_iret hx hb hr hlocks hS (show z_3.toInt = sE f2 x2.toInt k.toInt from (by rw [sE_in (by omega) (by omega)]; omega)) hQ dX11_see_18
set_option maxRecDepth 100000 in
set_option maxHeartbeats 4000000 in
theorem k_isWord2 (l : Launch) (D : va_G) (cI cR cM : ClassId) (sz : Nat) {jn mm : Nat} {q : Nat → Nat} {x0 x1 x2 x3 x4 x5 x6 x7 x8 x9 x10 x11 x12 x13 x14 x15 x16 x17 x18 x19 x20 : Int32} {f0 f1 f2 f3 f4 f5 f6 f7 f8 f9 f10 f11 f12 f13 f14 f15 f16 f17 f18 f19 f20 f21 f22 f23 f24 : Nat → Int32} {n a b d g : Int32}  (ht : 0 ≤ x2.toInt ∧ x2.toInt ≤ 300) (h5 : 0 ≤ x5.toInt ∧ x5.toInt ≤ 300) (h6 : 0 ≤ x6.toInt ∧ x6.toInt ≤ 300) : Met l yX11_isWord wsX11_isWord ({ frames := 1, cells := 0, slots := 0, locals := 21 }) (P0 D cI cR cM [.ref mm, .int n, .int a, .int b, .int d, .int g] sz (mX mm q jn cI x0 x1 x2 x3 x4 x5 x6 x7 x8 x9 x10 x11 x12 x13 x14 x15 x16 x17 x18 x19 x20 f0 f1 f2 f3 f4 f5 f6 f7 f8 f9 f10 f11 f12 f13 f14 f15 f16 f17 f18 f19 f20 f21 f22 f23 f24)) (QP (fun r => ((r.toInt = 1 ∧ IsW (sE f2 x2.toInt) x6.toInt x5.toInt n.toInt a.toInt b.toInt d.toInt g.toInt) ∨ (r.toInt = 0 ∧ ¬ IsW (sE f2 x2.toInt) x6.toInt x5.toInt n.toInt a.toInt b.toInt d.toInt g.toInt))) sz) 0 0 (va_A [] sz) := by
  refine go (cc := cX11_isWord) (maxL := 6) (ret := (some .boolean)) (by decide) rfl (Nat.le_of_ble_eq_true rfl) ?_
  intro p e s m below meth c ls args Q hQ hsz hx hb hr hml hts hown hlocks hnm hP hK hD hl
  subst hsz
  have hS : va_S (va_A [] s.heap.size) s.heap s.heap [] := va_S.rf
  have hA : ∀ q, s.heap.size ≤ q → va_A [] s.heap.size q := fun q h => Or.inr h
  have hl : lv_has ls 6 [(0, .ref mm), (1, .int n), (2, .int a), (3, .int b), (4, .int d), (5, .int g)] := hl
  refine lv_aload_n hx hb dX11_isWord_0 rfl (lv_at hl 0 rfl) ?_
  refine va_get (D := D) (ci := 11) (v := .int x5) (C := RX11) (T := TX11) (N := 47) hx hb hts (by decide +kernel) hown hK.1 hP 0 rfl rfl 9 (by decide) (hts (.fieldLink RX11 117 "JugglingHallModel" "at" "I") (by decide +kernel)) (fun _ h9 => h9) rfl dX11_isWord_1 ?_
  refine lv_aload_n hx hb dX11_isWord_4 rfl (lv_at hl 0 rfl) ?_
  refine va_get (D := D) (ci := 11) (v := .int x6) (C := RX11) (T := TX11) (N := 47) hx hb hts (by decide +kernel) hown hK.1 hP 0 rfl rfl 10 (by decide) (hts (.fieldLink RX11 120 "JugglingHallModel" "place" "I") (by decide +kernel)) (fun _ h9 => h9) rfl dX11_isWord_5 ?_
  refine a_isub (u := x5.toInt) (v := x6.toInt) hx hb dX11_isWord_8 (rfl) (rfl) (by omega) (fun z_1 e_1 => ?_)
  refine lv_iload_n hx hb dX11_isWord_9 rfl (lv_at hl 1 rfl) ?_
  refine a_icmp_ne (u := (x5.toInt - x6.toInt)) (v := n.toInt) (tgt := 78) hx hb dX11_isWord_10 (by decide) (e_1) (rfl) (fun c_2 => ?_) (fun c_2 => ?_)
  · refine lv_iconst (v := 0) hx hb dX11_isWord_78 (by decide) ?_
    have hz_3 : (0 : Int32).toInt = 0 := by decide
    exact rp_zret hx hb hr hlocks hS (by first | exact Or.inl rfl | exact Or.inr rfl) (show ((0 : Int32).toInt = 1 ∧ IsW (sE f2 x2.toInt) x6.toInt x5.toInt n.toInt a.toInt b.toInt d.toInt g.toInt) ∨ ((0 : Int32).toInt = 0 ∧ ¬ IsW (sE f2 x2.toInt) x6.toInt x5.toInt n.toInt a.toInt b.toInt d.toInt g.toInt) from (by unfold IsW; omega)) hQ dX11_isWord_79
  · refine lv_aload_n hx hb dX11_isWord_13 rfl (lv_at hl 0 rfl) ?_
    refine lv_aload_n hx hb dX11_isWord_14 rfl (lv_at hl 0 rfl) ?_
    refine va_get (D := D) (ci := 11) (v := .int x6) (C := RX11) (T := TX11) (N := 47) hx hb hts (by decide +kernel) hown hK.1 hP 0 rfl rfl 10 (by decide) (hts (.fieldLink RX11 120 "JugglingHallModel" "place" "I") (by decide +kernel)) (fun _ h9 => h9) rfl dX11_isWord_15 ?_
    refine roP (va_runV (As := [.int x6]) (rest := []) ⟨hx, hb, hml, hown, hts⟩ (k_see2 l D cI cR cM _  (by first | assumption | omega) (by first | assumption | omega)) (cwV 1 hts gX11_isWord_X11_see rfl rfl rfl (by decide +kernel) ⟨Nat.le_of_ble_eq_true rfl, Nat.le_of_ble_eq_true rfl⟩) (pre_V hK hP hD 0 11 rfl rfl) rfl rfl hl.1 rfl (lv_room (Nat.le_of_ble_eq_true rfl)) dX11_isWord_18 ⟨Nat.le_of_ble_eq_true rfl, Nat.le_of_ble_eq_true rfl⟩) hS hA hP (fun r_4 H locs hw hP hS => ?_)
    have h_4 : (r_4.toInt = sE f2 x2.toInt x6.toInt) := hw
    have hs9_4 : r_4.toInt = (sE f2 x2.toInt) x6.toInt := h_4
    refine lv_iload_n hx hb dX11_isWord_21 rfl (lv_at hl 2 rfl) ?_
    refine a_icmp_ne (u := r_4.toInt) (v := a.toInt) (tgt := 78) hx hb dX11_isWord_22 (by decide) (rfl) (rfl) (fun c_5 => ?_) (fun c_5 => ?_)
    · refine lv_iconst (v := 0) hx hb dX11_isWord_78 (by decide) ?_
      have hz_6 : (0 : Int32).toInt = 0 := by decide
      exact rp_zret hx hb hr hlocks hS (by first | exact Or.inl rfl | exact Or.inr rfl) (show ((0 : Int32).toInt = 1 ∧ IsW (sE f2 x2.toInt) x6.toInt x5.toInt n.toInt a.toInt b.toInt d.toInt g.toInt) ∨ ((0 : Int32).toInt = 0 ∧ ¬ IsW (sE f2 x2.toInt) x6.toInt x5.toInt n.toInt a.toInt b.toInt d.toInt g.toInt) from (by unfold IsW; omega)) hQ dX11_isWord_79
    · refine lv_aload_n hx hb dX11_isWord_25 rfl (lv_at hl 0 rfl) ?_
      refine lv_aload_n hx hb dX11_isWord_26 rfl (lv_at hl 0 rfl) ?_
      refine va_get (D := D) (ci := 11) (v := .int x6) (C := RX11) (T := TX11) (N := 47) hx hb hts (by decide +kernel) hown hK.1 hP 0 rfl rfl 10 (by decide) (hts (.fieldLink RX11 120 "JugglingHallModel" "place" "I") (by decide +kernel)) (fun _ h9 => h9) rfl dX11_isWord_27 ?_
      refine lv_iconst (v := 1) hx hb dX11_isWord_30 (by decide) ?_
      refine a_iadd (u := x6.toInt) (v := 1) hx hb dX11_isWord_31 (rfl) (by decide) (by omega) (fun z_7 e_7 => ?_)
      refine roP (va_runV (As := [.int z_7]) (rest := []) ⟨hx, hb, hml, hown, hts⟩ (k_see2 l D cI cR cM _  (by first | assumption | omega) (by first | assumption | omega)) (cwV 1 hts gX11_isWord_X11_see rfl rfl rfl (by decide +kernel) ⟨Nat.le_of_ble_eq_true rfl, Nat.le_of_ble_eq_true rfl⟩) (pre_V hK hP hD 0 11 rfl rfl) rfl rfl hl.1 rfl (lv_room (Nat.le_of_ble_eq_true rfl)) dX11_isWord_32 ⟨Nat.le_of_ble_eq_true rfl, Nat.le_of_ble_eq_true rfl⟩) hS hA hP (fun r_8 H locs hw hP hS => ?_)
      have h_8 : (r_8.toInt = sE f2 x2.toInt z_7.toInt) := hw
      have hs9_8 : r_8.toInt = (sE f2 x2.toInt) (x6.toInt + 1) := h_8.trans (congrArg (sE f2 x2.toInt) (by omega))
      refine lv_iload_n hx hb dX11_isWord_35 rfl (lv_at hl 3 rfl) ?_
      refine a_icmp_ne (u := r_8.toInt) (v := b.toInt) (tgt := 78) hx hb dX11_isWord_36 (by decide) (rfl) (rfl) (fun c_9 => ?_) (fun c_9 => ?_)
      · refine lv_iconst (v := 0) hx hb dX11_isWord_78 (by decide) ?_
        have hz_10 : (0 : Int32).toInt = 0 := by decide
        exact rp_zret hx hb hr hlocks hS (by first | exact Or.inl rfl | exact Or.inr rfl) (show ((0 : Int32).toInt = 1 ∧ IsW (sE f2 x2.toInt) x6.toInt x5.toInt n.toInt a.toInt b.toInt d.toInt g.toInt) ∨ ((0 : Int32).toInt = 0 ∧ ¬ IsW (sE f2 x2.toInt) x6.toInt x5.toInt n.toInt a.toInt b.toInt d.toInt g.toInt) from (by unfold IsW; omega)) hQ dX11_isWord_79
      · refine lv_aload_n hx hb dX11_isWord_39 rfl (lv_at hl 0 rfl) ?_
        refine lv_aload_n hx hb dX11_isWord_40 rfl (lv_at hl 0 rfl) ?_
        refine va_get (D := D) (ci := 11) (v := .int x6) (C := RX11) (T := TX11) (N := 47) hx hb hts (by decide +kernel) hown hK.1 hP 0 rfl rfl 10 (by decide) (hts (.fieldLink RX11 120 "JugglingHallModel" "place" "I") (by decide +kernel)) (fun _ h9 => h9) rfl dX11_isWord_41 ?_
        refine lv_iconst (v := 2) hx hb dX11_isWord_44 (by decide) ?_
        refine a_iadd (u := x6.toInt) (v := 2) hx hb dX11_isWord_45 (rfl) (by decide) (by omega) (fun z_11 e_11 => ?_)
        refine roP (va_runV (As := [.int z_11]) (rest := []) ⟨hx, hb, hml, hown, hts⟩ (k_see2 l D cI cR cM _  (by first | assumption | omega) (by first | assumption | omega)) (cwV 1 hts gX11_isWord_X11_see rfl rfl rfl (by decide +kernel) ⟨Nat.le_of_ble_eq_true rfl, Nat.le_of_ble_eq_true rfl⟩) (pre_V hK hP hD 0 11 rfl rfl) rfl rfl hl.1 rfl (lv_room (Nat.le_of_ble_eq_true rfl)) dX11_isWord_46 ⟨Nat.le_of_ble_eq_true rfl, Nat.le_of_ble_eq_true rfl⟩) hS hA hP (fun r_12 H locs hw hP hS => ?_)
        have h_12 : (r_12.toInt = sE f2 x2.toInt z_11.toInt) := hw
        have hs9_12 : r_12.toInt = (sE f2 x2.toInt) (x6.toInt + 2) := h_12.trans (congrArg (sE f2 x2.toInt) (by omega))
        refine lv_iload hx hb dX11_isWord_49 (lv_at hl 4 rfl) ?_
        refine a_icmp_ne (u := r_12.toInt) (v := d.toInt) (tgt := 78) hx hb dX11_isWord_51 (by decide) (rfl) (rfl) (fun c_13 => ?_) (fun c_13 => ?_)
        · refine lv_iconst (v := 0) hx hb dX11_isWord_78 (by decide) ?_
          have hz_14 : (0 : Int32).toInt = 0 := by decide
          exact rp_zret hx hb hr hlocks hS (by first | exact Or.inl rfl | exact Or.inr rfl) (show ((0 : Int32).toInt = 1 ∧ IsW (sE f2 x2.toInt) x6.toInt x5.toInt n.toInt a.toInt b.toInt d.toInt g.toInt) ∨ ((0 : Int32).toInt = 0 ∧ ¬ IsW (sE f2 x2.toInt) x6.toInt x5.toInt n.toInt a.toInt b.toInt d.toInt g.toInt) from (by unfold IsW; omega)) hQ dX11_isWord_79
        · refine lv_iload_n hx hb dX11_isWord_54 rfl (lv_at hl 1 rfl) ?_
          refine lv_iconst (v := 4) hx hb dX11_isWord_55 (by decide) ?_
          refine a_icmp_lt (u := n.toInt) (v := 4) (tgt := 74) hx hb dX11_isWord_56 (by decide) (rfl) (by decide) (fun c_15 => ?_) (fun c_15 => ?_)
          · refine lv_iconst (v := 1) hx hb dX11_isWord_74 (by decide) ?_
            refine lv_goto (tgt := 79) hx hb dX11_isWord_75 (by decide) ?_
            have hz_16 : (1 : Int32).toInt = 1 := by decide
            exact rp_zret hx hb hr hlocks hS (by first | exact Or.inl rfl | exact Or.inr rfl) (show ((1 : Int32).toInt = 1 ∧ IsW (sE f2 x2.toInt) x6.toInt x5.toInt n.toInt a.toInt b.toInt d.toInt g.toInt) ∨ ((1 : Int32).toInt = 0 ∧ ¬ IsW (sE f2 x2.toInt) x6.toInt x5.toInt n.toInt a.toInt b.toInt d.toInt g.toInt) from (by unfold IsW; omega)) hQ dX11_isWord_79
          · refine lv_aload_n hx hb dX11_isWord_59 rfl (lv_at hl 0 rfl) ?_
            refine lv_aload_n hx hb dX11_isWord_60 rfl (lv_at hl 0 rfl) ?_
            refine va_get (D := D) (ci := 11) (v := .int x6) (C := RX11) (T := TX11) (N := 47) hx hb hts (by decide +kernel) hown hK.1 hP 0 rfl rfl 10 (by decide) (hts (.fieldLink RX11 120 "JugglingHallModel" "place" "I") (by decide +kernel)) (fun _ h9 => h9) rfl dX11_isWord_61 ?_
            refine lv_iconst (v := 3) hx hb dX11_isWord_64 (by decide) ?_
            refine a_iadd (u := x6.toInt) (v := 3) hx hb dX11_isWord_65 (rfl) (by decide) (by omega) (fun z_17 e_17 => ?_)
            refine roP (va_runV (As := [.int z_17]) (rest := []) ⟨hx, hb, hml, hown, hts⟩ (k_see2 l D cI cR cM _  (by first | assumption | omega) (by first | assumption | omega)) (cwV 1 hts gX11_isWord_X11_see rfl rfl rfl (by decide +kernel) ⟨Nat.le_of_ble_eq_true rfl, Nat.le_of_ble_eq_true rfl⟩) (pre_V hK hP hD 0 11 rfl rfl) rfl rfl hl.1 rfl (lv_room (Nat.le_of_ble_eq_true rfl)) dX11_isWord_66 ⟨Nat.le_of_ble_eq_true rfl, Nat.le_of_ble_eq_true rfl⟩) hS hA hP (fun r_18 H locs hw hP hS => ?_)
            have h_18 : (r_18.toInt = sE f2 x2.toInt z_17.toInt) := hw
            have hs9_18 : r_18.toInt = (sE f2 x2.toInt) (x6.toInt + 3) := h_18.trans (congrArg (sE f2 x2.toInt) (by omega))
            refine lv_iload hx hb dX11_isWord_69 (lv_at hl 5 rfl) ?_
            refine a_icmp_ne (u := r_18.toInt) (v := g.toInt) (tgt := 78) hx hb dX11_isWord_71 (by decide) (rfl) (rfl) (fun c_19 => ?_) (fun c_19 => ?_)
            · refine lv_iconst (v := 0) hx hb dX11_isWord_78 (by decide) ?_
              have hz_20 : (0 : Int32).toInt = 0 := by decide
              exact rp_zret hx hb hr hlocks hS (by first | exact Or.inl rfl | exact Or.inr rfl) (show ((0 : Int32).toInt = 1 ∧ IsW (sE f2 x2.toInt) x6.toInt x5.toInt n.toInt a.toInt b.toInt d.toInt g.toInt) ∨ ((0 : Int32).toInt = 0 ∧ ¬ IsW (sE f2 x2.toInt) x6.toInt x5.toInt n.toInt a.toInt b.toInt d.toInt g.toInt) from (by unfold IsW; omega)) hQ dX11_isWord_79
            · refine lv_iconst (v := 1) hx hb dX11_isWord_74 (by decide) ?_
              refine lv_goto (tgt := 79) hx hb dX11_isWord_75 (by decide) ?_
              have hz_21 : (1 : Int32).toInt = 1 := by decide
              exact rp_zret hx hb hr hlocks hS (by first | exact Or.inl rfl | exact Or.inr rfl) (show ((1 : Int32).toInt = 1 ∧ IsW (sE f2 x2.toInt) x6.toInt x5.toInt n.toInt a.toInt b.toInt d.toInt g.toInt) ∨ ((1 : Int32).toInt = 0 ∧ ¬ IsW (sE f2 x2.toInt) x6.toInt x5.toInt n.toInt a.toInt b.toInt d.toInt g.toInt) from (by unfold IsW; omega)) hQ dX11_isWord_79
set_option maxRecDepth 100000 in
set_option maxHeartbeats 4000000 in
theorem k_wordOf2 (l : Launch) (D : va_G) (cI cR cM : ClassId) (sz : Nat) {jn mm : Nat} {q : Nat → Nat} {x0 x1 x2 x3 x4 x5 x6 x7 x8 x9 x10 x11 x12 x13 x14 x15 x16 x17 x18 x19 x20 : Int32} {f0 f1 f2 f3 f4 f5 f6 f7 f8 f9 f10 f11 f12 f13 f14 f15 f16 f17 f18 f19 f20 f21 f22 f23 f24 : Nat → Int32}  (ht : 0 ≤ x2.toInt ∧ x2.toInt ≤ 300) (h5 : 0 ≤ x5.toInt ∧ x5.toInt ≤ 300) (h6 : 0 ≤ x6.toInt ∧ x6.toInt ≤ 300) : Met l yX11_wordOf wsX11_wordOf ({ frames := 2, cells := 0, slots := 0, locals := 46 }) (P0 D cI cR cM [.ref mm] sz (mX mm q jn cI x0 x1 x2 x3 x4 x5 x6 x7 x8 x9 x10 x11 x12 x13 x14 x15 x16 x17 x18 x19 x20 f0 f1 f2 f3 f4 f5 f6 f7 f8 f9 f10 f11 f12 f13 f14 f15 f16 f17 f18 f19 f20 f21 f22 f23 f24)) (QP (fun r => (WKd (sE f2 x2.toInt) x6.toInt x5.toInt r.toInt)) sz) 0 0 (va_A [] sz) := by
  refine go (cc := cX11_wordOf) (maxL := 1) (ret := (some .int)) (by decide) rfl (Nat.le_of_ble_eq_true rfl) ?_
  intro p e s m below meth c ls args Q hQ hsz hx hb hr hml hts hown hlocks hnm hP hK hD hl
  subst hsz
  have hS : va_S (va_A [] s.heap.size) s.heap s.heap [] := va_S.rf
  have hA : ∀ q, s.heap.size ≤ q → va_A [] s.heap.size q := fun q h => Or.inr h
  have hl : lv_has ls 1 [(0, .ref mm)] := hl
  refine lv_aload_n hx hb dX11_wordOf_0 rfl (lv_at hl 0 rfl) ?_
  refine va_get (D := D) (ci := 11) (v := .int x5) (C := RX11) (T := TX11) (N := 47) hx hb hts (by decide +kernel) hown hK.1 hP 0 rfl rfl 9 (by decide) (hts (.fieldLink RX11 117 "JugglingHallModel" "at" "I") (by decide +kernel)) (fun _ h9 => h9) rfl dX11_wordOf_1 ?_
  refine lv_aload_n hx hb dX11_wordOf_4 rfl (lv_at hl 0 rfl) ?_
  refine va_get (D := D) (ci := 11) (v := .int x6) (C := RX11) (T := TX11) (N := 47) hx hb hts (by decide +kernel) hown hK.1 hP 0 rfl rfl 10 (by decide) (hts (.fieldLink RX11 120 "JugglingHallModel" "place" "I") (by decide +kernel)) (fun _ h9 => h9) rfl dX11_wordOf_5 ?_
  refine a_isub (u := x5.toInt) (v := x6.toInt) hx hb dX11_wordOf_8 (rfl) (rfl) (by omega) (fun z_1 e_1 => ?_)
  refine lv_iconst (v := 1) hx hb dX11_wordOf_9 (by decide) ?_
  refine a_icmp_ne (u := (x5.toInt - x6.toInt)) (v := 1) (tgt := 54) hx hb dX11_wordOf_10 (by decide) (e_1) (by decide) (fun c_2 => ?_) (fun c_2 => ?_)
  · refine lv_aload_n hx hb dX11_wordOf_54 rfl (lv_at hl 0 rfl) ?_
    refine lv_iconst (v := 3) hx hb dX11_wordOf_55 (by decide) ?_
    refine lv_bipush (v := 114) hx hb dX11_wordOf_56 (by decide) ?_
    refine lv_bipush (v := 111) hx hb dX11_wordOf_58 (by decide) ?_
    refine lv_bipush (v := 119) hx hb dX11_wordOf_60 (by decide) ?_
    refine lv_iconst (v := 0) hx hb dX11_wordOf_62 (by decide) ?_
    have hz_3 : (3 : Int32).toInt = 3 := by decide
    have hz_4 : (114 : Int32).toInt = 114 := by decide
    have hz_5 : (111 : Int32).toInt = 111 := by decide
    have hz_6 : (119 : Int32).toInt = 119 := by decide
    have hz_7 : (0 : Int32).toInt = 0 := by decide
    refine roP (va_runV (As := [.int 3, .int 114, .int 111, .int 119, .int 0]) (rest := []) ⟨hx, hb, hml, hown, hts⟩ (k_isWord2 l D cI cR cM _  (by first | assumption | omega) (by first | assumption | omega) (by first | assumption | omega)) (cwV 5 hts gX11_wordOf_X11_isWord rfl rfl rfl (by decide +kernel) ⟨Nat.le_of_ble_eq_true rfl, Nat.le_of_ble_eq_true rfl⟩) (pre_V hK hP hD 0 11 rfl rfl) rfl rfl hl.1 rfl (lv_room (Nat.le_of_ble_eq_true rfl)) dX11_wordOf_63 ⟨Nat.le_of_ble_eq_true rfl, Nat.le_of_ble_eq_true rfl⟩) hS hA hP (fun r_8 H locs hw hP hS => ?_)
    have h_8 : ((r_8.toInt = 1 ∧ IsW (sE f2 x2.toInt) x6.toInt x5.toInt (3 : Int32).toInt (114 : Int32).toInt (111 : Int32).toInt (119 : Int32).toInt (0 : Int32).toInt) ∨ (r_8.toInt = 0 ∧ ¬ IsW (sE f2 x2.toInt) x6.toInt x5.toInt (3 : Int32).toInt (114 : Int32).toInt (111 : Int32).toInt (119 : Int32).toInt (0 : Int32).toInt)) := hw
    refine a_if_eq (u := r_8.toInt) (tgt := 71) hx hb dX11_wordOf_66 (by decide) (rfl) (fun c_9 => ?_) (fun c_9 => ?_)
    · refine lv_aload_n hx hb dX11_wordOf_71 rfl (lv_at hl 0 rfl) ?_
      refine lv_iconst (v := 4) hx hb dX11_wordOf_72 (by decide) ?_
      refine lv_bipush (v := 115) hx hb dX11_wordOf_73 (by decide) ?_
      refine lv_bipush (v := 101) hx hb dX11_wordOf_75 (by decide) ?_
      refine lv_bipush (v := 101) hx hb dX11_wordOf_77 (by decide) ?_
      refine lv_bipush (v := 110) hx hb dX11_wordOf_79 (by decide) ?_
      have hz_10 : (4 : Int32).toInt = 4 := by decide
      have hz_11 : (115 : Int32).toInt = 115 := by decide
      have hz_12 : (101 : Int32).toInt = 101 := by decide
      have hz_13 : (101 : Int32).toInt = 101 := by decide
      have hz_14 : (110 : Int32).toInt = 110 := by decide
      refine roP (va_runV (As := [.int 4, .int 115, .int 101, .int 101, .int 110]) (rest := []) ⟨hx, hb, hml, hown, hts⟩ (k_isWord2 l D cI cR cM _  (by first | assumption | omega) (by first | assumption | omega) (by first | assumption | omega)) (cwV 5 hts gX11_wordOf_X11_isWord rfl rfl rfl (by decide +kernel) ⟨Nat.le_of_ble_eq_true rfl, Nat.le_of_ble_eq_true rfl⟩) (pre_V hK hP hD 0 11 rfl rfl) rfl rfl hl.1 rfl (lv_room (Nat.le_of_ble_eq_true rfl)) dX11_wordOf_81 ⟨Nat.le_of_ble_eq_true rfl, Nat.le_of_ble_eq_true rfl⟩) hS hA hP (fun r_15 H locs hw hP hS => ?_)
      have h_15 : ((r_15.toInt = 1 ∧ IsW (sE f2 x2.toInt) x6.toInt x5.toInt (4 : Int32).toInt (115 : Int32).toInt (101 : Int32).toInt (101 : Int32).toInt (110 : Int32).toInt) ∨ (r_15.toInt = 0 ∧ ¬ IsW (sE f2 x2.toInt) x6.toInt x5.toInt (4 : Int32).toInt (115 : Int32).toInt (101 : Int32).toInt (101 : Int32).toInt (110 : Int32).toInt)) := hw
      refine a_if_eq (u := r_15.toInt) (tgt := 90) hx hb dX11_wordOf_84 (by decide) (rfl) (fun c_16 => ?_) (fun c_16 => ?_)
      · refine lv_aload_n hx hb dX11_wordOf_90 rfl (lv_at hl 0 rfl) ?_
        refine lv_iconst (v := 4) hx hb dX11_wordOf_91 (by decide) ?_
        refine lv_bipush (v := 98) hx hb dX11_wordOf_92 (by decide) ?_
        refine lv_bipush (v := 97) hx hb dX11_wordOf_94 (by decide) ?_
        refine lv_bipush (v := 99) hx hb dX11_wordOf_96 (by decide) ?_
        refine lv_bipush (v := 107) hx hb dX11_wordOf_98 (by decide) ?_
        have hz_17 : (4 : Int32).toInt = 4 := by decide
        have hz_18 : (98 : Int32).toInt = 98 := by decide
        have hz_19 : (97 : Int32).toInt = 97 := by decide
        have hz_20 : (99 : Int32).toInt = 99 := by decide
        have hz_21 : (107 : Int32).toInt = 107 := by decide
        refine roP (va_runV (As := [.int 4, .int 98, .int 97, .int 99, .int 107]) (rest := []) ⟨hx, hb, hml, hown, hts⟩ (k_isWord2 l D cI cR cM _  (by first | assumption | omega) (by first | assumption | omega) (by first | assumption | omega)) (cwV 5 hts gX11_wordOf_X11_isWord rfl rfl rfl (by decide +kernel) ⟨Nat.le_of_ble_eq_true rfl, Nat.le_of_ble_eq_true rfl⟩) (pre_V hK hP hD 0 11 rfl rfl) rfl rfl hl.1 rfl (lv_room (Nat.le_of_ble_eq_true rfl)) dX11_wordOf_100 ⟨Nat.le_of_ble_eq_true rfl, Nat.le_of_ble_eq_true rfl⟩) hS hA hP (fun r_22 H locs hw hP hS => ?_)
        have h_22 : ((r_22.toInt = 1 ∧ IsW (sE f2 x2.toInt) x6.toInt x5.toInt (4 : Int32).toInt (98 : Int32).toInt (97 : Int32).toInt (99 : Int32).toInt (107 : Int32).toInt) ∨ (r_22.toInt = 0 ∧ ¬ IsW (sE f2 x2.toInt) x6.toInt x5.toInt (4 : Int32).toInt (98 : Int32).toInt (97 : Int32).toInt (99 : Int32).toInt (107 : Int32).toInt)) := hw
        refine a_if_eq (u := r_22.toInt) (tgt := 109) hx hb dX11_wordOf_103 (by decide) (rfl) (fun c_23 => ?_) (fun c_23 => ?_)
        · refine lv_aload_n hx hb dX11_wordOf_109 rfl (lv_at hl 0 rfl) ?_
          refine lv_iconst (v := 4) hx hb dX11_wordOf_110 (by decide) ?_
          refine lv_bipush (v := 111) hx hb dX11_wordOf_111 (by decide) ?_
          refine lv_bipush (v := 118) hx hb dX11_wordOf_113 (by decide) ?_
          refine lv_bipush (v := 101) hx hb dX11_wordOf_115 (by decide) ?_
          refine lv_bipush (v := 114) hx hb dX11_wordOf_117 (by decide) ?_
          have hz_24 : (4 : Int32).toInt = 4 := by decide
          have hz_25 : (111 : Int32).toInt = 111 := by decide
          have hz_26 : (118 : Int32).toInt = 118 := by decide
          have hz_27 : (101 : Int32).toInt = 101 := by decide
          have hz_28 : (114 : Int32).toInt = 114 := by decide
          refine roP (va_runV (As := [.int 4, .int 111, .int 118, .int 101, .int 114]) (rest := []) ⟨hx, hb, hml, hown, hts⟩ (k_isWord2 l D cI cR cM _  (by first | assumption | omega) (by first | assumption | omega) (by first | assumption | omega)) (cwV 5 hts gX11_wordOf_X11_isWord rfl rfl rfl (by decide +kernel) ⟨Nat.le_of_ble_eq_true rfl, Nat.le_of_ble_eq_true rfl⟩) (pre_V hK hP hD 0 11 rfl rfl) rfl rfl hl.1 rfl (lv_room (Nat.le_of_ble_eq_true rfl)) dX11_wordOf_119 ⟨Nat.le_of_ble_eq_true rfl, Nat.le_of_ble_eq_true rfl⟩) hS hA hP (fun r_29 H locs hw hP hS => ?_)
          have h_29 : ((r_29.toInt = 1 ∧ IsW (sE f2 x2.toInt) x6.toInt x5.toInt (4 : Int32).toInt (111 : Int32).toInt (118 : Int32).toInt (101 : Int32).toInt (114 : Int32).toInt) ∨ (r_29.toInt = 0 ∧ ¬ IsW (sE f2 x2.toInt) x6.toInt x5.toInt (4 : Int32).toInt (111 : Int32).toInt (118 : Int32).toInt (101 : Int32).toInt (114 : Int32).toInt)) := hw
          refine a_if_eq (u := r_29.toInt) (tgt := 128) hx hb dX11_wordOf_122 (by decide) (rfl) (fun c_30 => ?_) (fun c_30 => ?_)
          · refine lv_aload_n hx hb dX11_wordOf_128 rfl (lv_at hl 0 rfl) ?_
            refine lv_iconst (v := 4) hx hb dX11_wordOf_129 (by decide) ?_
            refine lv_bipush (v := 100) hx hb dX11_wordOf_130 (by decide) ?_
            refine lv_bipush (v := 117) hx hb dX11_wordOf_132 (by decide) ?_
            refine lv_bipush (v := 97) hx hb dX11_wordOf_134 (by decide) ?_
            refine lv_bipush (v := 108) hx hb dX11_wordOf_136 (by decide) ?_
            have hz_31 : (4 : Int32).toInt = 4 := by decide
            have hz_32 : (100 : Int32).toInt = 100 := by decide
            have hz_33 : (117 : Int32).toInt = 117 := by decide
            have hz_34 : (97 : Int32).toInt = 97 := by decide
            have hz_35 : (108 : Int32).toInt = 108 := by decide
            refine roP (va_runV (As := [.int 4, .int 100, .int 117, .int 97, .int 108]) (rest := []) ⟨hx, hb, hml, hown, hts⟩ (k_isWord2 l D cI cR cM _  (by first | assumption | omega) (by first | assumption | omega) (by first | assumption | omega)) (cwV 5 hts gX11_wordOf_X11_isWord rfl rfl rfl (by decide +kernel) ⟨Nat.le_of_ble_eq_true rfl, Nat.le_of_ble_eq_true rfl⟩) (pre_V hK hP hD 0 11 rfl rfl) rfl rfl hl.1 rfl (lv_room (Nat.le_of_ble_eq_true rfl)) dX11_wordOf_138 ⟨Nat.le_of_ble_eq_true rfl, Nat.le_of_ble_eq_true rfl⟩) hS hA hP (fun r_36 H locs hw hP hS => ?_)
            have h_36 : ((r_36.toInt = 1 ∧ IsW (sE f2 x2.toInt) x6.toInt x5.toInt (4 : Int32).toInt (100 : Int32).toInt (117 : Int32).toInt (97 : Int32).toInt (108 : Int32).toInt) ∨ (r_36.toInt = 0 ∧ ¬ IsW (sE f2 x2.toInt) x6.toInt x5.toInt (4 : Int32).toInt (100 : Int32).toInt (117 : Int32).toInt (97 : Int32).toInt (108 : Int32).toInt)) := hw
            refine a_if_eq (u := r_36.toInt) (tgt := 149) hx hb dX11_wordOf_141 (by decide) (rfl) (fun c_37 => ?_) (fun c_37 => ?_)
            · refine lv_aload_n hx hb dX11_wordOf_149 rfl (lv_at hl 0 rfl) ?_
              refine lv_iconst (v := 4) hx hb dX11_wordOf_150 (by decide) ?_
              refine lv_bipush (v := 116) hx hb dX11_wordOf_151 (by decide) ?_
              refine lv_bipush (v := 117) hx hb dX11_wordOf_153 (by decide) ?_
              refine lv_bipush (v := 114) hx hb dX11_wordOf_155 (by decide) ?_
              refine lv_bipush (v := 110) hx hb dX11_wordOf_157 (by decide) ?_
              have hz_38 : (4 : Int32).toInt = 4 := by decide
              have hz_39 : (116 : Int32).toInt = 116 := by decide
              have hz_40 : (117 : Int32).toInt = 117 := by decide
              have hz_41 : (114 : Int32).toInt = 114 := by decide
              have hz_42 : (110 : Int32).toInt = 110 := by decide
              refine roP (va_runV (As := [.int 4, .int 116, .int 117, .int 114, .int 110]) (rest := []) ⟨hx, hb, hml, hown, hts⟩ (k_isWord2 l D cI cR cM _  (by first | assumption | omega) (by first | assumption | omega) (by first | assumption | omega)) (cwV 5 hts gX11_wordOf_X11_isWord rfl rfl rfl (by decide +kernel) ⟨Nat.le_of_ble_eq_true rfl, Nat.le_of_ble_eq_true rfl⟩) (pre_V hK hP hD 0 11 rfl rfl) rfl rfl hl.1 rfl (lv_room (Nat.le_of_ble_eq_true rfl)) dX11_wordOf_159 ⟨Nat.le_of_ble_eq_true rfl, Nat.le_of_ble_eq_true rfl⟩) hS hA hP (fun r_43 H locs hw hP hS => ?_)
              have h_43 : ((r_43.toInt = 1 ∧ IsW (sE f2 x2.toInt) x6.toInt x5.toInt (4 : Int32).toInt (116 : Int32).toInt (117 : Int32).toInt (114 : Int32).toInt (110 : Int32).toInt) ∨ (r_43.toInt = 0 ∧ ¬ IsW (sE f2 x2.toInt) x6.toInt x5.toInt (4 : Int32).toInt (116 : Int32).toInt (117 : Int32).toInt (114 : Int32).toInt (110 : Int32).toInt)) := hw
              refine a_if_eq (u := r_43.toInt) (tgt := 170) hx hb dX11_wordOf_162 (by decide) (rfl) (fun c_44 => ?_) (fun c_44 => ?_)
              · refine lv_iconst (v := 3) hx hb dX11_wordOf_170 (by decide) ?_
                have hz_45 : (3 : Int32).toInt = 3 := by decide
                exact rp_iret hx hb hr hlocks hS (show WKd (sE f2 x2.toInt) x6.toInt x5.toInt (3 : Int32).toInt from (by
                  first
                  | exact WKd_3 (by omega) (isw_0 h_8 c_9) (isw_0 h_15 c_16) (isw_0 h_22 c_23) (isw_0 h_29 c_30) (isw_0 h_36 c_37) (isw_0 h_43 c_44)
                  | exact Or.inl ⟨by omega, by omega⟩)) hQ dX11_wordOf_171
              · refine lv_bipush (v := 10) hx hb dX11_wordOf_165 (by decide) ?_
                refine lv_goto (tgt := 171) hx hb dX11_wordOf_167 (by decide) ?_
                have hz_46 : (10 : Int32).toInt = 10 := by decide
                exact rp_iret hx hb hr hlocks hS (show WKd (sE f2 x2.toInt) x6.toInt x5.toInt (10 : Int32).toInt from (WKd_10 (isw_1 h_43 c_44))) hQ dX11_wordOf_171
            · refine lv_bipush (v := 9) hx hb dX11_wordOf_144 (by decide) ?_
              refine lv_goto (tgt := 171) hx hb dX11_wordOf_146 (by decide) ?_
              have hz_47 : (9 : Int32).toInt = 9 := by decide
              exact rp_iret hx hb hr hlocks hS (show WKd (sE f2 x2.toInt) x6.toInt x5.toInt (9 : Int32).toInt from (WKd_9 (isw_1 h_36 c_37))) hQ dX11_wordOf_171
          · refine lv_bipush (v := 8) hx hb dX11_wordOf_125 (by decide) ?_
            have hz_48 : (8 : Int32).toInt = 8 := by decide
            exact rp_iret hx hb hr hlocks hS (show WKd (sE f2 x2.toInt) x6.toInt x5.toInt (8 : Int32).toInt from (WKd_8 (isw_1 h_29 c_30))) hQ dX11_wordOf_127
        · refine lv_bipush (v := 7) hx hb dX11_wordOf_106 (by decide) ?_
          have hz_49 : (7 : Int32).toInt = 7 := by decide
          exact rp_iret hx hb hr hlocks hS (show WKd (sE f2 x2.toInt) x6.toInt x5.toInt (7 : Int32).toInt from (WKd_7 (isw_1 h_22 c_23))) hQ dX11_wordOf_108
      · refine lv_bipush (v := 6) hx hb dX11_wordOf_87 (by decide) ?_
        have hz_50 : (6 : Int32).toInt = 6 := by decide
        exact rp_iret hx hb hr hlocks hS (show WKd (sE f2 x2.toInt) x6.toInt x5.toInt (6 : Int32).toInt from (WKd_6 (isw_1 h_15 c_16))) hQ dX11_wordOf_89
    · refine lv_iconst (v := 5) hx hb dX11_wordOf_69 (by decide) ?_
      have hz_51 : (5 : Int32).toInt = 5 := by decide
      exact rp_iret hx hb hr hlocks hS (show WKd (sE f2 x2.toInt) x6.toInt x5.toInt (5 : Int32).toInt from (WKd_5 (isw_1 h_8 c_9))) hQ dX11_wordOf_70
  · refine lv_aload_n hx hb dX11_wordOf_13 rfl (lv_at hl 0 rfl) ?_
    refine lv_aload_n hx hb dX11_wordOf_14 rfl (lv_at hl 0 rfl) ?_
    refine va_get (D := D) (ci := 11) (v := .int x6) (C := RX11) (T := TX11) (N := 47) hx hb hts (by decide +kernel) hown hK.1 hP 0 rfl rfl 10 (by decide) (hts (.fieldLink RX11 120 "JugglingHallModel" "place" "I") (by decide +kernel)) (fun _ h9 => h9) rfl dX11_wordOf_15 ?_
    refine roP (va_runV (As := [.int x6]) (rest := []) ⟨hx, hb, hml, hown, hts⟩ (k_see2 l D cI cR cM _  (by first | assumption | omega) (by first | assumption | omega)) (cwV 1 hts gX11_wordOf_X11_see rfl rfl rfl (by decide +kernel) ⟨Nat.le_of_ble_eq_true rfl, Nat.le_of_ble_eq_true rfl⟩) (pre_V hK hP hD 0 11 rfl rfl) rfl rfl hl.1 rfl (lv_room (Nat.le_of_ble_eq_true rfl)) dX11_wordOf_18 ⟨Nat.le_of_ble_eq_true rfl, Nat.le_of_ble_eq_true rfl⟩) hS hA hP (fun r_52 H locs hw hP hS => ?_)
    have h_52 : (r_52.toInt = sE f2 x2.toInt x6.toInt) := hw
    have hs9_52 : r_52.toInt = (sE f2 x2.toInt) x6.toInt := h_52
    refine lv_bipush (v := 65) hx hb dX11_wordOf_21 (by decide) ?_
    refine lv_bipush (v := 72) hx hb dX11_wordOf_23 (by decide) ?_
    have hz_53 : (65 : Int32).toInt = 65 := by decide
    have hz_54 : (72 : Int32).toInt = 72 := by decide
    refine roP (va_runS (As := [.int r_52, .int 65, .int 72]) (rest := []) ⟨hx, hb, hml, hown, hts⟩ (k_isIn l D cI cR cM _  ) (va_cwS 3 hts gX11_wordOf_X11_isIn rfl rfl rfl (by decide +kernel) ⟨Nat.le_of_ble_eq_true rfl, Nat.le_of_ble_eq_true rfl⟩) (pre_S hK va_P_nil (va_D_nil (A := fun _ => True))) rfl rfl hl.1 rfl (lv_room (Nat.le_of_ble_eq_true rfl)) dX11_wordOf_25 ⟨Nat.le_of_ble_eq_true rfl, Nat.le_of_ble_eq_true rfl⟩) hS hA hP (fun r_55 H locs hw hP hS => ?_)
    have h_55 : ((r_55.toInt = 1 ∧ (65 : Int32).toInt ≤ r_52.toInt ∧ r_52.toInt ≤ (72 : Int32).toInt) ∨ (r_55.toInt = 0 ∧ (r_52.toInt < (65 : Int32).toInt ∨ (72 : Int32).toInt < r_52.toInt))) := hw
    refine a_if_eq (u := r_55.toInt) (tgt := 35) hx hb dX11_wordOf_28 (by decide) (rfl) (fun c_56 => ?_) (fun c_56 => ?_)
    · refine lv_aload_n hx hb dX11_wordOf_35 rfl (lv_at hl 0 rfl) ?_
      refine lv_aload_n hx hb dX11_wordOf_36 rfl (lv_at hl 0 rfl) ?_
      refine va_get (D := D) (ci := 11) (v := .int x6) (C := RX11) (T := TX11) (N := 47) hx hb hts (by decide +kernel) hown hK.1 hP 0 rfl rfl 10 (by decide) (hts (.fieldLink RX11 120 "JugglingHallModel" "place" "I") (by decide +kernel)) (fun _ h9 => h9) rfl dX11_wordOf_37 ?_
      refine roP (va_runV (As := [.int x6]) (rest := []) ⟨hx, hb, hml, hown, hts⟩ (k_see2 l D cI cR cM _  (by first | assumption | omega) (by first | assumption | omega)) (cwV 1 hts gX11_wordOf_X11_see rfl rfl rfl (by decide +kernel) ⟨Nat.le_of_ble_eq_true rfl, Nat.le_of_ble_eq_true rfl⟩) (pre_V hK hP hD 0 11 rfl rfl) rfl rfl hl.1 rfl (lv_room (Nat.le_of_ble_eq_true rfl)) dX11_wordOf_40 ⟨Nat.le_of_ble_eq_true rfl, Nat.le_of_ble_eq_true rfl⟩) hS hA hP (fun r_57 H locs hw hP hS => ?_)
      have h_57 : (r_57.toInt = sE f2 x2.toInt x6.toInt) := hw
      have hs9_57 : r_57.toInt = (sE f2 x2.toInt) x6.toInt := h_57
      refine lv_bipush (v := 112) hx hb dX11_wordOf_43 (by decide) ?_
      refine a_icmp_ne (u := r_57.toInt) (v := 112) (tgt := 52) hx hb dX11_wordOf_45 (by decide) (rfl) (by decide) (fun c_58 => ?_) (fun c_58 => ?_)
      · refine lv_iconst (v := 3) hx hb dX11_wordOf_52 (by decide) ?_
        have hz_59 : (3 : Int32).toInt = 3 := by decide
        exact rp_iret hx hb hr hlocks hS (show WKd (sE f2 x2.toInt) x6.toInt x5.toInt (3 : Int32).toInt from (by
          first
          | exact WKd_3 (by omega) (isw_0 h_8 c_9) (isw_0 h_15 c_16) (isw_0 h_22 c_23) (isw_0 h_29 c_30) (isw_0 h_36 c_37) (isw_0 h_43 c_44)
          | exact Or.inl ⟨by omega, by omega⟩)) hQ dX11_wordOf_53
      · refine lv_iconst (v := 4) hx hb dX11_wordOf_48 (by decide) ?_
        refine lv_goto (tgt := 53) hx hb dX11_wordOf_49 (by decide) ?_
        have hz_60 : (4 : Int32).toInt = 4 := by decide
        exact rp_iret hx hb hr hlocks hS (show WKd (sE f2 x2.toInt) x6.toInt x5.toInt (4 : Int32).toInt from (by
          first
          | exact WKd_3 (by omega) (isw_0 h_8 c_9) (isw_0 h_15 c_16) (isw_0 h_22 c_23) (isw_0 h_29 c_30) (isw_0 h_36 c_37) (isw_0 h_43 c_44)
          | exact Or.inl ⟨by omega, by omega⟩)) hQ dX11_wordOf_53
    · refine lv_iconst (v := 2) hx hb dX11_wordOf_31 (by decide) ?_
      refine lv_goto (tgt := 53) hx hb dX11_wordOf_32 (by decide) ?_
      have hz_61 : (2 : Int32).toInt = 2 := by decide
      exact rp_iret hx hb hr hlocks hS (show WKd (sE f2 x2.toInt) x6.toInt x5.toInt (2 : Int32).toInt from (by
        first
        | exact WKd_3 (by omega) (isw_0 h_8 c_9) (isw_0 h_15 c_16) (isw_0 h_22 c_23) (isw_0 h_29 c_30) (isw_0 h_36 c_37) (isw_0 h_43 c_44)
        | exact Or.inl ⟨by omega, by omega⟩)) hQ dX11_wordOf_53
set_option maxRecDepth 100000 in
set_option maxHeartbeats 4000000 in
theorem k_next2 (l : Launch) (D : va_G) (cI cR cM : ClassId) (sz : Nat) {jn mm : Nat} {q : Nat → Nat} {x0 x1 x2 x3 x4 x5 x6 x7 x8 x9 x10 x11 x12 x13 x14 x15 x16 x17 x18 x19 x20 : Int32} {f0 f1 f2 f3 f4 f5 f6 f7 f8 f9 f10 f11 f12 f13 f14 f15 f16 f17 f18 f19 f20 f21 f22 f23 f24 : Nat → Int32}  (ht : 0 ≤ x2.toInt ∧ x2.toInt ≤ 300) (h5 : 0 ≤ x5.toInt ∧ x5.toInt ≤ x2.toInt) : Met l yX11_nextToken wsX11_nextToken ({ frames := 3, cells := 0, slots := 0, locals := 66 }) (P0 D cI cR cM [.ref mm] sz (mX mm q jn cI x0 x1 x2 x3 x4 x5 x6 x7 x8 x9 x10 x11 x12 x13 x14 x15 x16 x17 x18 x19 x20 f0 f1 f2 f3 f4 f5 f6 f7 f8 f9 f10 f11 f12 f13 f14 f15 f16 f17 f18 f19 f20 f21 f22 f23 f24)) (QG (S := Int32 × Int32 × Int32 × Int32) (fun u => none) (fun u => mX mm q jn cI x0 x1 x2 x3 x4 (u.1) (u.2.1) (u.2.2.1) (u.2.2.2) x9 x10 x11 x12 x13 x14 x15 x16 x17 x18 x19 x20 f0 f1 f2 f3 f4 f5 f6 f7 f8 f9 f10 f11 f12 f13 f14 f15 f16 f17 f18 f19 f20 f21 f22 f23 f24) (fun u => (x5.toInt ≤ u.1.toInt ∧ u.1.toInt ≤ x2.toInt) ∧ (0 ≤ u.2.1.toInt ∧ u.2.1.toInt ≤ 300) ∧ (u.2.2.1.toInt = 0 ∨ x5.toInt < u.1.toInt) ∧ (TokOK u.2.2.1 u.2.2.2) ∧ (∃ v9 : Int, TkR (sE f2 x2.toInt) x5.toInt u.2.2.1.toInt v9 u.2.1.toInt u.1.toInt ∧ (u.2.2.1.toInt = 1 ∨ u.2.2.1.toInt = 2 → u.2.2.2.toInt = v9))) D (va_A (mX mm q jn cI x0 x1 x2 x3 x4 x5 x6 x7 x8 x9 x10 x11 x12 x13 x14 x15 x16 x17 x18 x19 x20 f0 f1 f2 f3 f4 f5 f6 f7 f8 f9 f10 f11 f12 f13 f14 f15 f16 f17 f18 f19 f20 f21 f22 f23 f24) sz)) 0 0 (va_A (mX mm q jn cI x0 x1 x2 x3 x4 x5 x6 x7 x8 x9 x10 x11 x12 x13 x14 x15 x16 x17 x18 x19 x20 f0 f1 f2 f3 f4 f5 f6 f7 f8 f9 f10 f11 f12 f13 f14 f15 f16 f17 f18 f19 f20 f21 f22 f23 f24) sz) := by
  refine go (cc := cX11_nextToken) (maxL := 3) (ret := none) (by decide) rfl (Nat.le_of_ble_eq_true rfl) ?_
  intro p e s m below meth c ls args Q hQ hsz hx hb hr hml hts hown hlocks hnm hP hK hD hl
  subst hsz
  have hD := hD.self (sz := s.heap.size)
  generalize hAe : va_A (mX mm q jn cI x0 x1 x2 x3 x4 x5 x6 x7 x8 x9 x10 x11 x12 x13 x14 x15 x16 x17 x18 x19 x20 f0 f1 f2 f3 f4 f5 f6 f7 f8 f9 f10 f11 f12 f13 f14 f15 f16 f17 f18 f19 f20 f21 f22 f23 f24) s.heap.size = A at hD hQ
  have hA : ∀ q, s.heap.size ≤ q → A q := fun q h => by rw [← hAe]; exact Or.inr h
  have hS : va_S A s.heap s.heap [] := va_S.rf
  have hl : lv_has ls 3 [(0, .ref mm)] := hl
  have loop0 : ∀ (ddloop0 : Nat) (a5 : Int32) (H : Heap) (locs : List Loc) (ls : Array Slot), (x2.toInt - a5.toInt).toNat < ddloop0 → (x5.toInt ≤ a5.toInt ∧ a5.toInt ≤ x2.toInt) → (∀ i9 : Int, x5.toInt ≤ i9 → i9 < a5.toInt → (sE f2 x2.toInt) i9 = 32 ∨ (sE f2 x2.toInt) i9 = 10) → va_P D vwCl (mX mm q jn cI x0 x1 x2 x3 x4 a5 x6 x7 x8 x9 x10 x11 x12 x13 x14 x15 x16 x17 x18 x19 x20 f0 f1 f2 f3 f4 f5 f6 f7 f8 f9 f10 f11 f12 f13 f14 f15 f16 f17 f18 f19 f20 f21 f22 f23 f24) H → va_D A (mX mm q jn cI x0 x1 x2 x3 x4 a5 x6 x7 x8 x9 x10 x11 x12 x13 x14 x15 x16 x17 x18 x19 x20 f0 f1 f2 f3 f4 f5 f6 f7 f8 f9 f10 f11 f12 f13 f14 f15 f16 f17 f18 f19 f20 f21 f22 f23 f24) → va_S A s.heap H locs → lv_has ls 3 [(0, .ref mm)] → W p l e ({ frames := 3, cells := 0, slots := 0, locals := 66 }) s m args below meth c H locs 0 0 Q (F0 m 0 ls []) := by
    intro ddloop0
    induction ddloop0 with
    | zero =>
      intro a5 H locs ls hdd
      exact absurd hdd (Nat.not_lt_zero _)
    | succ ddloop0 ih0 =>
      intro a5 H locs ls hdd hi hsp hP hD hS hl
      have hou : a5.toInt = x2.toInt → (sE f2 x2.toInt) a5.toInt = -1 := fun q => sE_out (by omega)
      refine lv_aload_n hx hb dX11_nextToken_0 rfl (lv_at hl 0 rfl) ?_
      refine lv_aload_n hx hb dX11_nextToken_1 rfl (lv_at hl 0 rfl) ?_
      refine va_get (D := D) (ci := 11) (v := .int a5) (C := RX11) (T := TX11) (N := 47) hx hb hts (by decide +kernel) hown hK.1 hP 0 rfl rfl 9 (by decide) (hts (.fieldLink RX11 117 "JugglingHallModel" "at" "I") (by decide +kernel)) (fun _ h9 => h9) rfl dX11_nextToken_2 ?_
      refine roP (va_runV (As := [.int a5]) (rest := []) ⟨hx, hb, hml, hown, hts⟩ (k_see2 l D cI cR cM _  (by first | assumption | omega) (by first | assumption | omega)) (cwV 1 hts gX11_nextToken_X11_see rfl rfl rfl (by decide +kernel) ⟨Nat.le_of_ble_eq_true rfl, Nat.le_of_ble_eq_true rfl⟩) (pre_V hK hP hD 0 11 rfl rfl) rfl rfl hl.1 rfl (lv_room (Nat.le_of_ble_eq_true rfl)) dX11_nextToken_5 ⟨Nat.le_of_ble_eq_true rfl, Nat.le_of_ble_eq_true rfl⟩) hS hA hP (fun r_1 H locs hw hP hS => ?_)
      have h_1 : (r_1.toInt = sE f2 x2.toInt a5.toInt) := hw
      refine lv_bipush (v := 32) hx hb dX11_nextToken_8 (by decide) ?_
      refine a_icmp_eq (u := r_1.toInt) (v := 32) (tgt := 26) hx hb dX11_nextToken_10 (by decide) (rfl) (by decide) (fun c_2 => ?_) (fun c_2 => ?_)
      · refine lv_aload_n hx hb dX11_nextToken_26 rfl (lv_at hl 0 rfl) ?_
        refine lv_dup hx hb dX11_nextToken_27 rfl ?_
        refine va_get (D := D) (ci := 11) (v := .int a5) (C := RX11) (T := TX11) (N := 47) hx hb hts (by decide +kernel) hown hK.1 hP 0 rfl rfl 9 (by decide) (hts (.fieldLink RX11 117 "JugglingHallModel" "at" "I") (by decide +kernel)) (fun _ h9 => h9) rfl dX11_nextToken_28 ?_
        refine lv_iconst (v := 1) hx hb dX11_nextToken_31 (by decide) ?_
        refine a_iadd (u := a5.toInt) (v := 1) hx hb dX11_nextToken_32 (rfl) (by decide) (by omega) (fun z_3 e_3 => ?_)
        refine mp_5 hx hb hts (by decide +kernel) hown hK hP hD hS (hts (.fieldLink RX11 117 "JugglingHallModel" "at" "I") (by decide +kernel)) dX11_nextToken_33 (fun H locs hP hD hS => ?_)
        refine lv_goto (tgt := 0) hx hb dX11_nextToken_36 (by decide) ?_
        exact ih0 z_3 _ _ _ (by omega) (by first | assumption | omega) (fun i9 h8 h9 => by
          by_cases q : i9 = a5.toInt
          · rw [q]; omega
          · exact hsp i9 h8 (by omega)) hP hD hS (lv_sub hl [0] rfl)
      · refine lv_aload_n hx hb dX11_nextToken_13 rfl (lv_at hl 0 rfl) ?_
        refine lv_aload_n hx hb dX11_nextToken_14 rfl (lv_at hl 0 rfl) ?_
        refine va_get (D := D) (ci := 11) (v := .int a5) (C := RX11) (T := TX11) (N := 47) hx hb hts (by decide +kernel) hown hK.1 hP 0 rfl rfl 9 (by decide) (hts (.fieldLink RX11 117 "JugglingHallModel" "at" "I") (by decide +kernel)) (fun _ h9 => h9) rfl dX11_nextToken_15 ?_
        refine roP (va_runV (As := [.int a5]) (rest := []) ⟨hx, hb, hml, hown, hts⟩ (k_see2 l D cI cR cM _  (by first | assumption | omega) (by first | assumption | omega)) (cwV 1 hts gX11_nextToken_X11_see rfl rfl rfl (by decide +kernel) ⟨Nat.le_of_ble_eq_true rfl, Nat.le_of_ble_eq_true rfl⟩) (pre_V hK hP hD 0 11 rfl rfl) rfl rfl hl.1 rfl (lv_room (Nat.le_of_ble_eq_true rfl)) dX11_nextToken_18 ⟨Nat.le_of_ble_eq_true rfl, Nat.le_of_ble_eq_true rfl⟩) hS hA hP (fun r_4 H locs hw hP hS => ?_)
        have h_4 : (r_4.toInt = sE f2 x2.toInt a5.toInt) := hw
        refine lv_bipush (v := 10) hx hb dX11_nextToken_21 (by decide) ?_
        refine a_icmp_ne (u := r_4.toInt) (v := 10) (tgt := 39) hx hb dX11_nextToken_23 (by decide) (rfl) (by decide) (fun c_5 => ?_) (fun c_5 => ?_)
        · refine lv_aload_n hx hb dX11_nextToken_39 rfl (lv_at hl 0 rfl) ?_
          refine lv_aload_n hx hb dX11_nextToken_40 rfl (lv_at hl 0 rfl) ?_
          refine va_get (D := D) (ci := 11) (v := .int a5) (C := RX11) (T := TX11) (N := 47) hx hb hts (by decide +kernel) hown hK.1 hP 0 rfl rfl 9 (by decide) (hts (.fieldLink RX11 117 "JugglingHallModel" "at" "I") (by decide +kernel)) (fun _ h9 => h9) rfl dX11_nextToken_41 ?_
          refine mp_6 hx hb hts (by decide +kernel) hown hK hP hD hS (hts (.fieldLink RX11 120 "JugglingHallModel" "place" "I") (by decide +kernel)) dX11_nextToken_44 (fun H locs hP hD hS => ?_)
          refine lv_aload_n hx hb dX11_nextToken_47 rfl (lv_at hl 0 rfl) ?_
          refine lv_aload_n hx hb dX11_nextToken_48 rfl (lv_at hl 0 rfl) ?_
          refine va_get (D := D) (ci := 11) (v := .int a5) (C := RX11) (T := TX11) (N := 47) hx hb hts (by decide +kernel) hown hK.1 hP 0 rfl rfl 9 (by decide) (hts (.fieldLink RX11 117 "JugglingHallModel" "at" "I") (by decide +kernel)) (fun _ h9 => h9) rfl dX11_nextToken_49 ?_
          refine roP (va_runV (As := [.int a5]) (rest := []) ⟨hx, hb, hml, hown, hts⟩ (k_see2 l D cI cR cM _  (by first | assumption | omega) (by first | assumption | omega)) (cwV 1 hts gX11_nextToken_X11_see rfl rfl rfl (by decide +kernel) ⟨Nat.le_of_ble_eq_true rfl, Nat.le_of_ble_eq_true rfl⟩) (pre_V hK hP hD 0 11 rfl rfl) rfl rfl hl.1 rfl (lv_room (Nat.le_of_ble_eq_true rfl)) dX11_nextToken_52 ⟨Nat.le_of_ble_eq_true rfl, Nat.le_of_ble_eq_true rfl⟩) hS hA hP (fun r_6 H locs hw hP hS => ?_)
          have h_6 : (r_6.toInt = sE f2 x2.toInt a5.toInt) := hw
          have hc9 : r_6.toInt = (sE f2 x2.toInt) a5.toInt := h_6
          refine lv_istore_n (lv' := [(1, .int r_6), (0, .ref mm)]) hx hb dX11_nextToken_55 rfl hl (by decide) rfl (fun ls hl => ?_)
          refine lv_iload_n hx hb dX11_nextToken_56 rfl (lv_at hl 0 rfl) ?_
          refine a_if_ge (u := r_6.toInt) (tgt := 68) hx hb dX11_nextToken_57 (by decide) (rfl) (fun c_7 => ?_) (fun c_7 => ?_)
          · refine lv_iload_n hx hb dX11_nextToken_68 rfl (lv_at hl 0 rfl) ?_
            refine roP (va_runS (As := [.int r_6]) (rest := []) ⟨hx, hb, hml, hown, hts⟩ (k_isDigit l D cI cR cM _  ) (va_cwS 1 hts gX11_nextToken_X11_isDigit rfl rfl rfl (by decide +kernel) ⟨Nat.le_of_ble_eq_true rfl, Nat.le_of_ble_eq_true rfl⟩) (pre_S hK va_P_nil (va_D_nil (A := fun _ => True))) rfl rfl hl.1 rfl (lv_room (Nat.le_of_ble_eq_true rfl)) dX11_nextToken_69 ⟨Nat.le_of_ble_eq_true rfl, Nat.le_of_ble_eq_true rfl⟩) hS hA hP (fun r_8 H locs hw hP hS => ?_)
            have h_8 : ((r_8.toInt = 1 ∧ 48 ≤ r_6.toInt ∧ r_6.toInt ≤ 57) ∨ (r_8.toInt = 0 ∧ (r_6.toInt < 48 ∨ 57 < r_6.toInt))) := hw
            refine a_if_eq (u := r_8.toInt) (tgt := 101) hx hb dX11_nextToken_72 (by decide) (rfl) (fun c_9 => ?_) (fun c_9 => ?_)
            · refine lv_iload_n hx hb dX11_nextToken_101 rfl (lv_at hl 0 rfl) ?_
              refine roP (va_runS (As := [.int r_6]) (rest := []) ⟨hx, hb, hml, hown, hts⟩ (k_isLetter l D cI cR cM _  ) (va_cwS 1 hts gX11_nextToken_X11_isLetter rfl rfl rfl (by decide +kernel) ⟨Nat.le_of_ble_eq_true rfl, Nat.le_of_ble_eq_true rfl⟩) (pre_S hK va_P_nil (va_D_nil (A := fun _ => True))) rfl rfl hl.1 rfl (lv_room (Nat.le_of_ble_eq_true rfl)) dX11_nextToken_102 ⟨Nat.le_of_ble_eq_true rfl, Nat.le_of_ble_eq_true rfl⟩) hS hA hP (fun r_10 H locs hw hP hS => ?_)
              have h_10 : ((r_10.toInt = 1 ∧ 65 ≤ r_6.toInt ∧ r_6.toInt ≤ 122 ∧ (r_6.toInt ≤ 90 ∨ 97 ≤ r_6.toInt)) ∨ (r_10.toInt = 0 ∧ (r_6.toInt < 65 ∨ 122 < r_6.toInt ∨ (90 < r_6.toInt ∧ r_6.toInt < 97)))) := hw
              refine a_if_eq (u := r_10.toInt) (tgt := 154) hx hb dX11_nextToken_105 (by decide) (rfl) (fun c_11 => ?_) (fun c_11 => ?_)
              · have join12 : ∀  (H : Heap) (locs : List Loc) (ls : Array Slot), (isSg r_6.toInt) → (40 ≤ r_6.toInt ∧ r_6.toInt ≤ 124) → va_P D vwCl (mX mm q jn cI x0 x1 x2 x3 x4 a5 a5 x7 x8 x9 x10 x11 x12 x13 x14 x15 x16 x17 x18 x19 x20 f0 f1 f2 f3 f4 f5 f6 f7 f8 f9 f10 f11 f12 f13 f14 f15 f16 f17 f18 f19 f20 f21 f22 f23 f24) H → va_D A (mX mm q jn cI x0 x1 x2 x3 x4 a5 a5 x7 x8 x9 x10 x11 x12 x13 x14 x15 x16 x17 x18 x19 x20 f0 f1 f2 f3 f4 f5 f6 f7 f8 f9 f10 f11 f12 f13 f14 f15 f16 f17 f18 f19 f20 f21 f22 f23 f24) → va_S A s.heap H locs → lv_has ls 3 [(0, .ref mm), (1, .int r_6)] → W p l e ({ frames := 3, cells := 0, slots := 0, locals := 66 }) s m args below meth c H locs 0 0 Q (F0 m 220 ls []) := by
                  intro  H locs ls hj hj2 hP hD hS hl
                  unfold isSg at hj
                  refine lv_iconst (v := 1) hx hb dX11_nextToken_220 (by decide) ?_
                  refine lv_goto (tgt := 225) hx hb dX11_nextToken_221 (by decide) ?_
                  refine lv_istore_n (lv' := [(2, .int 1), (0, .ref mm), (1, .int r_6)]) hx hb dX11_nextToken_225 rfl hl (by decide) rfl (fun ls hl => ?_)
                  refine lv_aload_n hx hb dX11_nextToken_226 rfl (lv_at hl 1 rfl) ?_
                  refine lv_iload_n hx hb dX11_nextToken_227 rfl (lv_at hl 0 rfl) ?_
                  refine a_if_eq (u := 1) (tgt := 235) hx hb dX11_nextToken_228 (by decide) (by decide) (fun c_13 => absurd c_13 (by omega)) (fun c_13 => ?_)
                  refine lv_iload_n hx hb dX11_nextToken_231 rfl (lv_at hl 2 rfl) ?_
                  refine lv_goto (tgt := 236) hx hb dX11_nextToken_232 (by decide) ?_
                  refine mp_7 hx hb hts (by decide +kernel) hown hK hP hD hS (hts (.fieldLink RX11 131 "JugglingHallModel" "token" "I") (by decide +kernel)) dX11_nextToken_236 (fun H locs hP hD hS => ?_)
                  refine lv_aload_n hx hb dX11_nextToken_239 rfl (lv_at hl 1 rfl) ?_
                  refine lv_dup hx hb dX11_nextToken_240 rfl ?_
                  refine va_get (D := D) (ci := 11) (v := .int a5) (C := RX11) (T := TX11) (N := 47) hx hb hts (by decide +kernel) hown hK.1 hP 0 rfl rfl 9 (by decide) (hts (.fieldLink RX11 117 "JugglingHallModel" "at" "I") (by decide +kernel)) (fun _ h9 => h9) rfl dX11_nextToken_241 ?_
                  refine lv_iconst (v := 1) hx hb dX11_nextToken_244 (by decide) ?_
                  refine a_iadd (u := a5.toInt) (v := 1) hx hb dX11_nextToken_245 (rfl) (by decide) (by omega) (fun z_14 e_14 => ?_)
                  refine mp_5 hx hb hts (by decide +kernel) hown hK hP hD hS (hts (.fieldLink RX11 117 "JugglingHallModel" "at" "I") (by decide +kernel)) dX11_nextToken_246 (fun H locs hP hD hS => ?_)
                  exact g_vret (z_14, a5, r_6, x8) hx hb hr hlocks hS rfl (⟨show x5.toInt ≤ z_14.toInt ∧ z_14.toInt ≤ x2.toInt from (by first | assumption | omega), show 0 ≤ a5.toInt ∧ a5.toInt ≤ 300 from (by first | assumption | omega), show r_6.toInt = 0 ∨ x5.toInt < z_14.toInt from (by first | assumption | omega), show TokOK r_6 x8 from (by
                    have q9 : ∃ v9 : Int, TkR (sE f2 x2.toInt) x5.toInt r_6.toInt v9 a5.toInt z_14.toInt ∧ (r_6.toInt = 1 ∨ r_6.toInt = 2 → x8.toInt = v9) := ⟨0, ⟨by omega, hsp, by omega, Or.inr (Or.inr (Or.inr ⟨by omega, by omega, by unfold isLt; omega, by omega, by unfold isSg; omega⟩))⟩, fun q => absurd q (by omega)⟩
                    obtain ⟨v9, q1, q2⟩ := q9
                    have q3 := TkR_k q1
                    exact ⟨q3.1, fun e => by rw [q2 (Or.inl e)]; exact q3.2.2.1 e, fun e => by rw [q2 (Or.inr e)]; exact q3.2.2.2 e⟩), show ∃ v9 : Int, TkR (sE f2 x2.toInt) x5.toInt r_6.toInt v9 a5.toInt z_14.toInt ∧ (r_6.toInt = 1 ∨ r_6.toInt = 2 → x8.toInt = v9) from (⟨0, ⟨by omega, hsp, by omega, Or.inr (Or.inr (Or.inr ⟨by omega, by omega, by unfold isLt; omega, by omega, by unfold isSg; omega⟩))⟩, fun q => absurd q (by omega)⟩)⟩) hP hD hQ (Nat.le_of_ble_eq_true rfl) (Nat.le_of_ble_eq_true rfl) dX11_nextToken_249
                refine lv_iload_n hx hb dX11_nextToken_154 rfl (lv_at hl 0 rfl) ?_
                refine lv_bipush (v := 61) hx hb dX11_nextToken_155 (by decide) ?_
                refine a_icmp_eq (u := r_6.toInt) (v := 61) (tgt := 220) hx hb dX11_nextToken_157 (by decide) (rfl) (by decide) (fun c_15 => ?_) (fun c_15 => ?_)
                · exact join12  _ _ _ (by unfold isSg; omega) (by first | assumption | omega) hP hD hS (lv_sub hl [1, 0] rfl)
                · refine lv_iload_n hx hb dX11_nextToken_160 rfl (lv_at hl 0 rfl) ?_
                  refine lv_bipush (v := 59) hx hb dX11_nextToken_161 (by decide) ?_
                  refine a_icmp_eq (u := r_6.toInt) (v := 59) (tgt := 220) hx hb dX11_nextToken_163 (by decide) (rfl) (by decide) (fun c_16 => ?_) (fun c_16 => ?_)
                  · exact join12  _ _ _ (by unfold isSg; omega) (by first | assumption | omega) hP hD hS (lv_sub hl [1, 0] rfl)
                  · refine lv_iload_n hx hb dX11_nextToken_166 rfl (lv_at hl 0 rfl) ?_
                    refine lv_bipush (v := 42) hx hb dX11_nextToken_167 (by decide) ?_
                    refine a_icmp_eq (u := r_6.toInt) (v := 42) (tgt := 220) hx hb dX11_nextToken_169 (by decide) (rfl) (by decide) (fun c_17 => ?_) (fun c_17 => ?_)
                    · exact join12  _ _ _ (by unfold isSg; omega) (by first | assumption | omega) hP hD hS (lv_sub hl [1, 0] rfl)
                    · refine lv_iload_n hx hb dX11_nextToken_172 rfl (lv_at hl 0 rfl) ?_
                      refine lv_bipush (v := 40) hx hb dX11_nextToken_173 (by decide) ?_
                      refine a_icmp_eq (u := r_6.toInt) (v := 40) (tgt := 220) hx hb dX11_nextToken_175 (by decide) (rfl) (by decide) (fun c_18 => ?_) (fun c_18 => ?_)
                      · exact join12  _ _ _ (by unfold isSg; omega) (by first | assumption | omega) hP hD hS (lv_sub hl [1, 0] rfl)
                      · refine lv_iload_n hx hb dX11_nextToken_178 rfl (lv_at hl 0 rfl) ?_
                        refine lv_bipush (v := 41) hx hb dX11_nextToken_179 (by decide) ?_
                        refine a_icmp_eq (u := r_6.toInt) (v := 41) (tgt := 220) hx hb dX11_nextToken_181 (by decide) (rfl) (by decide) (fun c_19 => ?_) (fun c_19 => ?_)
                        · exact join12  _ _ _ (by unfold isSg; omega) (by first | assumption | omega) hP hD hS (lv_sub hl [1, 0] rfl)
                        · refine lv_iload_n hx hb dX11_nextToken_184 rfl (lv_at hl 0 rfl) ?_
                          refine lv_bipush (v := 91) hx hb dX11_nextToken_185 (by decide) ?_
                          refine a_icmp_eq (u := r_6.toInt) (v := 91) (tgt := 220) hx hb dX11_nextToken_187 (by decide) (rfl) (by decide) (fun c_20 => ?_) (fun c_20 => ?_)
                          · exact join12  _ _ _ (by unfold isSg; omega) (by first | assumption | omega) hP hD hS (lv_sub hl [1, 0] rfl)
                          · refine lv_iload_n hx hb dX11_nextToken_190 rfl (lv_at hl 0 rfl) ?_
                            refine lv_bipush (v := 93) hx hb dX11_nextToken_191 (by decide) ?_
                            refine a_icmp_eq (u := r_6.toInt) (v := 93) (tgt := 220) hx hb dX11_nextToken_193 (by decide) (rfl) (by decide) (fun c_21 => ?_) (fun c_21 => ?_)
                            · exact join12  _ _ _ (by unfold isSg; omega) (by first | assumption | omega) hP hD hS (lv_sub hl [1, 0] rfl)
                            · refine lv_iload_n hx hb dX11_nextToken_196 rfl (lv_at hl 0 rfl) ?_
                              refine lv_bipush (v := 60) hx hb dX11_nextToken_197 (by decide) ?_
                              refine a_icmp_eq (u := r_6.toInt) (v := 60) (tgt := 220) hx hb dX11_nextToken_199 (by decide) (rfl) (by decide) (fun c_22 => ?_) (fun c_22 => ?_)
                              · exact join12  _ _ _ (by unfold isSg; omega) (by first | assumption | omega) hP hD hS (lv_sub hl [1, 0] rfl)
                              · refine lv_iload_n hx hb dX11_nextToken_202 rfl (lv_at hl 0 rfl) ?_
                                refine lv_bipush (v := 62) hx hb dX11_nextToken_203 (by decide) ?_
                                refine a_icmp_eq (u := r_6.toInt) (v := 62) (tgt := 220) hx hb dX11_nextToken_205 (by decide) (rfl) (by decide) (fun c_23 => ?_) (fun c_23 => ?_)
                                · exact join12  _ _ _ (by unfold isSg; omega) (by first | assumption | omega) hP hD hS (lv_sub hl [1, 0] rfl)
                                · refine lv_iload_n hx hb dX11_nextToken_208 rfl (lv_at hl 0 rfl) ?_
                                  refine lv_bipush (v := 124) hx hb dX11_nextToken_209 (by decide) ?_
                                  refine a_icmp_eq (u := r_6.toInt) (v := 124) (tgt := 220) hx hb dX11_nextToken_211 (by decide) (rfl) (by decide) (fun c_24 => ?_) (fun c_24 => ?_)
                                  · exact join12  _ _ _ (by unfold isSg; omega) (by first | assumption | omega) hP hD hS (lv_sub hl [1, 0] rfl)
                                  · refine lv_iload_n hx hb dX11_nextToken_214 rfl (lv_at hl 0 rfl) ?_
                                    refine lv_bipush (v := 63) hx hb dX11_nextToken_215 (by decide) ?_
                                    refine a_icmp_ne (u := r_6.toInt) (v := 63) (tgt := 224) hx hb dX11_nextToken_217 (by decide) (rfl) (by decide) (fun c_25 => ?_) (fun c_25 => ?_)
                                    · refine lv_iconst (v := 0) hx hb dX11_nextToken_224 (by decide) ?_
                                      refine lv_istore_n (lv' := [(2, .int 0), (1, .int r_6), (0, .ref mm)]) hx hb dX11_nextToken_225 rfl hl (by decide) rfl (fun ls hl => ?_)
                                      refine lv_aload_n hx hb dX11_nextToken_226 rfl (lv_at hl 2 rfl) ?_
                                      refine lv_iload_n hx hb dX11_nextToken_227 rfl (lv_at hl 0 rfl) ?_
                                      refine a_if_eq (u := 0) (tgt := 235) hx hb dX11_nextToken_228 (by decide) (by decide) (fun c_26 => ?_) (fun c_26 => absurd c_26 (by omega))
                                      refine lv_iconst (v := 3) hx hb dX11_nextToken_235 (by decide) ?_
                                      refine mp_7 hx hb hts (by decide +kernel) hown hK hP hD hS (hts (.fieldLink RX11 131 "JugglingHallModel" "token" "I") (by decide +kernel)) dX11_nextToken_236 (fun H locs hP hD hS => ?_)
                                      refine lv_aload_n hx hb dX11_nextToken_239 rfl (lv_at hl 2 rfl) ?_
                                      refine lv_dup hx hb dX11_nextToken_240 rfl ?_
                                      refine va_get (D := D) (ci := 11) (v := .int a5) (C := RX11) (T := TX11) (N := 47) hx hb hts (by decide +kernel) hown hK.1 hP 0 rfl rfl 9 (by decide) (hts (.fieldLink RX11 117 "JugglingHallModel" "at" "I") (by decide +kernel)) (fun _ h9 => h9) rfl dX11_nextToken_241 ?_
                                      refine lv_iconst (v := 1) hx hb dX11_nextToken_244 (by decide) ?_
                                      refine a_iadd (u := a5.toInt) (v := 1) hx hb dX11_nextToken_245 (rfl) (by decide) (by omega) (fun z_27 e_27 => ?_)
                                      refine mp_5 hx hb hts (by decide +kernel) hown hK hP hD hS (hts (.fieldLink RX11 117 "JugglingHallModel" "at" "I") (by decide +kernel)) dX11_nextToken_246 (fun H locs hP hD hS => ?_)
                                      have hz_28 : (3 : Int32).toInt = 3 := by decide
                                      exact g_vret (z_27, a5, (3 : Int32), x8) hx hb hr hlocks hS rfl (⟨show x5.toInt ≤ z_27.toInt ∧ z_27.toInt ≤ x2.toInt from (by first | assumption | omega), show 0 ≤ a5.toInt ∧ a5.toInt ≤ 300 from (by first | assumption | omega), show (3 : Int32).toInt = 0 ∨ x5.toInt < z_27.toInt from (by first | assumption | omega), show TokOK (3 : Int32) x8 from (by
                                        have q9 : ∃ v9 : Int, TkR (sE f2 x2.toInt) x5.toInt (3 : Int32).toInt v9 a5.toInt z_27.toInt ∧ ((3 : Int32).toInt = 1 ∨ (3 : Int32).toInt = 2 → x8.toInt = v9) := ⟨0, ⟨by omega, hsp, by omega, Or.inr (Or.inr (Or.inr ⟨by omega, by omega, by unfold isLt; omega, by omega, by unfold isSg; omega⟩))⟩, fun q => absurd q (by omega)⟩
                                        obtain ⟨v9, q1, q2⟩ := q9
                                        have q3 := TkR_k q1
                                        exact ⟨q3.1, fun e => by rw [q2 (Or.inl e)]; exact q3.2.2.1 e, fun e => by rw [q2 (Or.inr e)]; exact q3.2.2.2 e⟩), show ∃ v9 : Int, TkR (sE f2 x2.toInt) x5.toInt (3 : Int32).toInt v9 a5.toInt z_27.toInt ∧ ((3 : Int32).toInt = 1 ∨ (3 : Int32).toInt = 2 → x8.toInt = v9) from (⟨0, ⟨by omega, hsp, by omega, Or.inr (Or.inr (Or.inr ⟨by omega, by omega, by unfold isLt; omega, by omega, by unfold isSg; omega⟩))⟩, fun q => absurd q (by omega)⟩)⟩) hP hD hQ (Nat.le_of_ble_eq_true rfl) (Nat.le_of_ble_eq_true rfl) dX11_nextToken_249
                                    · exact join12  _ _ _ (by unfold isSg; omega) (by first | assumption | omega) hP hD hS (lv_sub hl [1, 0] rfl)
              · have loop108 : ∀ (ddloop108 : Nat) (b5 : Int32) (H : Heap) (locs : List Loc) (ls : Array Slot), (x2.toInt - b5.toInt).toNat < ddloop108 → (a5.toInt ≤ b5.toInt ∧ b5.toInt ≤ x2.toInt) → (∀ i9 : Int, a5.toInt ≤ i9 → i9 < b5.toInt → isLt ((sE f2 x2.toInt) i9)) → va_P D vwCl (mX mm q jn cI x0 x1 x2 x3 x4 b5 a5 x7 x8 x9 x10 x11 x12 x13 x14 x15 x16 x17 x18 x19 x20 f0 f1 f2 f3 f4 f5 f6 f7 f8 f9 f10 f11 f12 f13 f14 f15 f16 f17 f18 f19 f20 f21 f22 f23 f24) H → va_D A (mX mm q jn cI x0 x1 x2 x3 x4 b5 a5 x7 x8 x9 x10 x11 x12 x13 x14 x15 x16 x17 x18 x19 x20 f0 f1 f2 f3 f4 f5 f6 f7 f8 f9 f10 f11 f12 f13 f14 f15 f16 f17 f18 f19 f20 f21 f22 f23 f24) → va_S A s.heap H locs → lv_has ls 3 [(0, .ref mm), (1, .int r_6)] → W p l e ({ frames := 3, cells := 0, slots := 0, locals := 66 }) s m args below meth c H locs 0 0 Q (F0 m 108 ls []) := by
                  intro ddloop108
                  induction ddloop108 with
                  | zero =>
                    intro b5 H locs ls hdd
                    exact absurd hdd (Nat.not_lt_zero _)
                  | succ ddloop108 ih108 =>
                    intro b5 H locs ls hdd hj hlw hP hD hS hl
                    have hou2 : b5.toInt = x2.toInt → (sE f2 x2.toInt) b5.toInt = -1 := fun q => sE_out (by omega)
                    refine lv_aload_n hx hb dX11_nextToken_108 rfl (lv_at hl 0 rfl) ?_
                    refine lv_aload_n hx hb dX11_nextToken_109 rfl (lv_at hl 0 rfl) ?_
                    refine va_get (D := D) (ci := 11) (v := .int b5) (C := RX11) (T := TX11) (N := 47) hx hb hts (by decide +kernel) hown hK.1 hP 0 rfl rfl 9 (by decide) (hts (.fieldLink RX11 117 "JugglingHallModel" "at" "I") (by decide +kernel)) (fun _ h9 => h9) rfl dX11_nextToken_110 ?_
                    refine roP (va_runV (As := [.int b5]) (rest := []) ⟨hx, hb, hml, hown, hts⟩ (k_see2 l D cI cR cM _  (by first | assumption | omega) (by first | assumption | omega)) (cwV 1 hts gX11_nextToken_X11_see rfl rfl rfl (by decide +kernel) ⟨Nat.le_of_ble_eq_true rfl, Nat.le_of_ble_eq_true rfl⟩) (pre_V hK hP hD 0 11 rfl rfl) rfl rfl hl.1 rfl (lv_room (Nat.le_of_ble_eq_true rfl)) dX11_nextToken_113 ⟨Nat.le_of_ble_eq_true rfl, Nat.le_of_ble_eq_true rfl⟩) hS hA hP (fun r_29 H locs hw hP hS => ?_)
                    have h_29 : (r_29.toInt = sE f2 x2.toInt b5.toInt) := hw
                    refine roP (va_runS (As := [.int r_29]) (rest := []) ⟨hx, hb, hml, hown, hts⟩ (k_isLetter l D cI cR cM _  ) (va_cwS 1 hts gX11_nextToken_X11_isLetter rfl rfl rfl (by decide +kernel) ⟨Nat.le_of_ble_eq_true rfl, Nat.le_of_ble_eq_true rfl⟩) (pre_S hK va_P_nil (va_D_nil (A := fun _ => True))) rfl rfl hl.1 rfl (lv_room (Nat.le_of_ble_eq_true rfl)) dX11_nextToken_116 ⟨Nat.le_of_ble_eq_true rfl, Nat.le_of_ble_eq_true rfl⟩) hS hA hP (fun r_30 H locs hw hP hS => ?_)
                    have h_30 : ((r_30.toInt = 1 ∧ 65 ≤ r_29.toInt ∧ r_29.toInt ≤ 122 ∧ (r_29.toInt ≤ 90 ∨ 97 ≤ r_29.toInt)) ∨ (r_30.toInt = 0 ∧ (r_29.toInt < 65 ∨ 122 < r_29.toInt ∨ (90 < r_29.toInt ∧ r_29.toInt < 97)))) := hw
                    refine a_if_eq (u := r_30.toInt) (tgt := 135) hx hb dX11_nextToken_119 (by decide) (rfl) (fun c_31 => ?_) (fun c_31 => ?_)
                    · have hbq : a5.toInt < b5.toInt := by
                        by_cases q : a5.toInt = b5.toInt
                        · exfalso
                          have q9 : (sE f2 x2.toInt) b5.toInt = (sE f2 x2.toInt) a5.toInt := by rw [q]
                          omega
                        · omega
                      refine lv_aload_n hx hb dX11_nextToken_135 rfl (lv_at hl 0 rfl) ?_
                      refine lv_aload_n hx hb dX11_nextToken_136 rfl (lv_at hl 0 rfl) ?_
                      refine roP (va_runV (As := []) (rest := [.ref mm]) ⟨hx, hb, hml, hown, hts⟩ (k_wordOf2 l D cI cR cM _  (by first | assumption | omega) (by first | assumption | omega) (by first | assumption | omega)) (cwV 0 hts gX11_nextToken_X11_wordOf rfl rfl rfl (by decide +kernel) ⟨Nat.le_of_ble_eq_true rfl, Nat.le_of_ble_eq_true rfl⟩) (pre_V hK hP hD 0 11 rfl rfl) rfl rfl hl.1 rfl (lv_room (Nat.le_of_ble_eq_true rfl)) dX11_nextToken_137 ⟨Nat.le_of_ble_eq_true rfl, Nat.le_of_ble_eq_true rfl⟩) hS hA hP (fun r_32 H locs hw hP hS => ?_)
                      have h_32 : (WKd (sE f2 x2.toInt) a5.toInt b5.toInt r_32.toInt) := hw
                      refine mp_7 hx hb hts (by decide +kernel) hown hK hP hD hS (hts (.fieldLink RX11 131 "JugglingHallModel" "token" "I") (by decide +kernel)) dX11_nextToken_140 (fun H locs hP hD hS => ?_)
                      refine lv_aload_n hx hb dX11_nextToken_143 rfl (lv_at hl 0 rfl) ?_
                      refine lv_iload_n hx hb dX11_nextToken_144 rfl (lv_at hl 1 rfl) ?_
                      refine lv_bipush (v := 65) hx hb dX11_nextToken_145 (by decide) ?_
                      refine a_isub (u := r_6.toInt) (v := 65) hx hb dX11_nextToken_147 (rfl) (by decide) (by omega) (fun z_33 e_33 => ?_)
                      refine mp_8 hx hb hts (by decide +kernel) hown hK hP hD hS (hts (.fieldLink RX11 138 "JugglingHallModel" "value" "I") (by decide +kernel)) dX11_nextToken_148 (fun H locs hP hD hS => ?_)
                      refine lv_goto (tgt := 249) hx hb dX11_nextToken_151 (by decide) ?_
                      exact g_vret (b5, a5, r_32, z_33) hx hb hr hlocks hS rfl (⟨show x5.toInt ≤ b5.toInt ∧ b5.toInt ≤ x2.toInt from (by first | assumption | omega), show 0 ≤ a5.toInt ∧ a5.toInt ≤ 300 from (by first | assumption | omega), show r_32.toInt = 0 ∨ x5.toInt < b5.toInt from (by first | assumption | omega), show TokOK r_32 z_33 from (by
                        have q9 : ∃ v9 : Int, TkR (sE f2 x2.toInt) x5.toInt r_32.toInt v9 a5.toInt b5.toInt ∧ (r_32.toInt = 1 ∨ r_32.toInt = 2 → z_33.toInt = v9) := ⟨z_33.toInt, ⟨by omega, hsp, by omega, Or.inr (Or.inr (Or.inl ⟨by unfold isLt; omega, by omega, hlw, by unfold isLt; omega, h_32, by omega⟩))⟩, fun _ => rfl⟩
                        obtain ⟨v9, q1, q2⟩ := q9
                        have q3 := TkR_k q1
                        exact ⟨q3.1, fun e => by rw [q2 (Or.inl e)]; exact q3.2.2.1 e, fun e => by rw [q2 (Or.inr e)]; exact q3.2.2.2 e⟩), show ∃ v9 : Int, TkR (sE f2 x2.toInt) x5.toInt r_32.toInt v9 a5.toInt b5.toInt ∧ (r_32.toInt = 1 ∨ r_32.toInt = 2 → z_33.toInt = v9) from (⟨z_33.toInt, ⟨by omega, hsp, by omega, Or.inr (Or.inr (Or.inl ⟨by unfold isLt; omega, by omega, hlw, by unfold isLt; omega, h_32, by omega⟩))⟩, fun _ => rfl⟩)⟩) hP hD hQ (Nat.le_of_ble_eq_true rfl) (Nat.le_of_ble_eq_true rfl) dX11_nextToken_249
                    · refine lv_aload_n hx hb dX11_nextToken_122 rfl (lv_at hl 0 rfl) ?_
                      refine lv_dup hx hb dX11_nextToken_123 rfl ?_
                      refine va_get (D := D) (ci := 11) (v := .int b5) (C := RX11) (T := TX11) (N := 47) hx hb hts (by decide +kernel) hown hK.1 hP 0 rfl rfl 9 (by decide) (hts (.fieldLink RX11 117 "JugglingHallModel" "at" "I") (by decide +kernel)) (fun _ h9 => h9) rfl dX11_nextToken_124 ?_
                      refine lv_iconst (v := 1) hx hb dX11_nextToken_127 (by decide) ?_
                      refine a_iadd (u := b5.toInt) (v := 1) hx hb dX11_nextToken_128 (rfl) (by decide) (by omega) (fun z_34 e_34 => ?_)
                      refine mp_5 hx hb hts (by decide +kernel) hown hK hP hD hS (hts (.fieldLink RX11 117 "JugglingHallModel" "at" "I") (by decide +kernel)) dX11_nextToken_129 (fun H locs hP hD hS => ?_)
                      refine lv_goto (tgt := 108) hx hb dX11_nextToken_132 (by decide) ?_
                      exact ih108 z_34 _ _ _ (by omega) (by first | assumption | omega) (fun i9 h8 h9 => by
                        by_cases q : i9 = b5.toInt
                        · rw [q]; unfold isLt; omega
                        · exact hlw i9 h8 (by omega)) hP hD hS (lv_sub hl [0, 1] rfl)
                exact loop108 ((x2.toInt - a5.toInt).toNat + 1) a5 _ _ _ (by omega) (by first | assumption | omega) (fun i9 h8 h9 => absurd h9 (by omega)) hP hD hS (lv_sub hl [1, 0] rfl)
            · refine lv_aload_n hx hb dX11_nextToken_75 rfl (lv_at hl 1 rfl) ?_
              refine lv_iconst (v := 1) hx hb dX11_nextToken_76 (by decide) ?_
              refine mp_7 hx hb hts (by decide +kernel) hown hK hP hD hS (hts (.fieldLink RX11 131 "JugglingHallModel" "token" "I") (by decide +kernel)) dX11_nextToken_77 (fun H locs hP hD hS => ?_)
              refine lv_aload_n hx hb dX11_nextToken_80 rfl (lv_at hl 1 rfl) ?_
              refine lv_iload_n hx hb dX11_nextToken_81 rfl (lv_at hl 0 rfl) ?_
              refine lv_bipush (v := 48) hx hb dX11_nextToken_82 (by decide) ?_
              refine a_isub (u := r_6.toInt) (v := 48) hx hb dX11_nextToken_84 (rfl) (by decide) (by omega) (fun z_35 e_35 => ?_)
              refine mp_8 hx hb hts (by decide +kernel) hown hK hP hD hS (hts (.fieldLink RX11 138 "JugglingHallModel" "value" "I") (by decide +kernel)) dX11_nextToken_85 (fun H locs hP hD hS => ?_)
              refine lv_aload_n hx hb dX11_nextToken_88 rfl (lv_at hl 1 rfl) ?_
              refine lv_dup hx hb dX11_nextToken_89 rfl ?_
              refine va_get (D := D) (ci := 11) (v := .int a5) (C := RX11) (T := TX11) (N := 47) hx hb hts (by decide +kernel) hown hK.1 hP 0 rfl rfl 9 (by decide) (hts (.fieldLink RX11 117 "JugglingHallModel" "at" "I") (by decide +kernel)) (fun _ h9 => h9) rfl dX11_nextToken_90 ?_
              refine lv_iconst (v := 1) hx hb dX11_nextToken_93 (by decide) ?_
              refine a_iadd (u := a5.toInt) (v := 1) hx hb dX11_nextToken_94 (rfl) (by decide) (by omega) (fun z_36 e_36 => ?_)
              refine mp_5 hx hb hts (by decide +kernel) hown hK hP hD hS (hts (.fieldLink RX11 117 "JugglingHallModel" "at" "I") (by decide +kernel)) dX11_nextToken_95 (fun H locs hP hD hS => ?_)
              refine lv_goto (tgt := 249) hx hb dX11_nextToken_98 (by decide) ?_
              have hz_37 : (1 : Int32).toInt = 1 := by decide
              exact g_vret (z_36, a5, (1 : Int32), z_35) hx hb hr hlocks hS rfl (⟨show x5.toInt ≤ z_36.toInt ∧ z_36.toInt ≤ x2.toInt from (by first | assumption | omega), show 0 ≤ a5.toInt ∧ a5.toInt ≤ 300 from (by first | assumption | omega), show (1 : Int32).toInt = 0 ∨ x5.toInt < z_36.toInt from (by first | assumption | omega), show TokOK (1 : Int32) z_35 from (by
                have q9 : ∃ v9 : Int, TkR (sE f2 x2.toInt) x5.toInt (1 : Int32).toInt v9 a5.toInt z_36.toInt ∧ ((1 : Int32).toInt = 1 ∨ (1 : Int32).toInt = 2 → z_35.toInt = v9) := ⟨z_35.toInt, ⟨by omega, hsp, by omega, Or.inr (Or.inl ⟨by omega, by omega, by omega, by omega, by omega⟩)⟩, fun _ => rfl⟩
                obtain ⟨v9, q1, q2⟩ := q9
                have q3 := TkR_k q1
                exact ⟨q3.1, fun e => by rw [q2 (Or.inl e)]; exact q3.2.2.1 e, fun e => by rw [q2 (Or.inr e)]; exact q3.2.2.2 e⟩), show ∃ v9 : Int, TkR (sE f2 x2.toInt) x5.toInt (1 : Int32).toInt v9 a5.toInt z_36.toInt ∧ ((1 : Int32).toInt = 1 ∨ (1 : Int32).toInt = 2 → z_35.toInt = v9) from (⟨z_35.toInt, ⟨by omega, hsp, by omega, Or.inr (Or.inl ⟨by omega, by omega, by omega, by omega, by omega⟩)⟩, fun _ => rfl⟩)⟩) hP hD hQ (Nat.le_of_ble_eq_true rfl) (Nat.le_of_ble_eq_true rfl) dX11_nextToken_249
          · refine lv_aload_n hx hb dX11_nextToken_60 rfl (lv_at hl 1 rfl) ?_
            refine lv_iconst (v := 0) hx hb dX11_nextToken_61 (by decide) ?_
            refine mp_7 hx hb hts (by decide +kernel) hown hK hP hD hS (hts (.fieldLink RX11 131 "JugglingHallModel" "token" "I") (by decide +kernel)) dX11_nextToken_62 (fun H locs hP hD hS => ?_)
            refine lv_goto (tgt := 249) hx hb dX11_nextToken_65 (by decide) ?_
            have hz_38 : (0 : Int32).toInt = 0 := by decide
            exact g_vret (a5, a5, (0 : Int32), x8) hx hb hr hlocks hS rfl (⟨show x5.toInt ≤ a5.toInt ∧ a5.toInt ≤ x2.toInt from (by first | assumption | omega), show 0 ≤ a5.toInt ∧ a5.toInt ≤ 300 from (by first | assumption | omega), show (0 : Int32).toInt = 0 ∨ x5.toInt < a5.toInt from (by first | assumption | omega), show TokOK (0 : Int32) x8 from (by
              have q9 : ∃ v9 : Int, TkR (sE f2 x2.toInt) x5.toInt (0 : Int32).toInt v9 a5.toInt a5.toInt ∧ ((0 : Int32).toInt = 1 ∨ (0 : Int32).toInt = 2 → x8.toInt = v9) := ⟨0, ⟨by omega, hsp, by omega, Or.inl ⟨by omega, by omega, by omega⟩⟩, fun q => absurd q (by omega)⟩
              obtain ⟨v9, q1, q2⟩ := q9
              have q3 := TkR_k q1
              exact ⟨q3.1, fun e => by rw [q2 (Or.inl e)]; exact q3.2.2.1 e, fun e => by rw [q2 (Or.inr e)]; exact q3.2.2.2 e⟩), show ∃ v9 : Int, TkR (sE f2 x2.toInt) x5.toInt (0 : Int32).toInt v9 a5.toInt a5.toInt ∧ ((0 : Int32).toInt = 1 ∨ (0 : Int32).toInt = 2 → x8.toInt = v9) from (⟨0, ⟨by omega, hsp, by omega, Or.inl ⟨by omega, by omega, by omega⟩⟩, fun q => absurd q (by omega)⟩)⟩) hP hD hQ (Nat.le_of_ble_eq_true rfl) (Nat.le_of_ble_eq_true rfl) dX11_nextToken_249
        · refine lv_aload_n hx hb dX11_nextToken_26 rfl (lv_at hl 0 rfl) ?_
          refine lv_dup hx hb dX11_nextToken_27 rfl ?_
          refine va_get (D := D) (ci := 11) (v := .int a5) (C := RX11) (T := TX11) (N := 47) hx hb hts (by decide +kernel) hown hK.1 hP 0 rfl rfl 9 (by decide) (hts (.fieldLink RX11 117 "JugglingHallModel" "at" "I") (by decide +kernel)) (fun _ h9 => h9) rfl dX11_nextToken_28 ?_
          refine lv_iconst (v := 1) hx hb dX11_nextToken_31 (by decide) ?_
          refine a_iadd (u := a5.toInt) (v := 1) hx hb dX11_nextToken_32 (rfl) (by decide) (by omega) (fun z_39 e_39 => ?_)
          refine mp_5 hx hb hts (by decide +kernel) hown hK hP hD hS (hts (.fieldLink RX11 117 "JugglingHallModel" "at" "I") (by decide +kernel)) dX11_nextToken_33 (fun H locs hP hD hS => ?_)
          refine lv_goto (tgt := 0) hx hb dX11_nextToken_36 (by decide) ?_
          exact ih0 z_39 _ _ _ (by omega) (by first | assumption | omega) (fun i9 h8 h9 => by
            by_cases q : i9 = a5.toInt
            · rw [q]; omega
            · exact hsp i9 h8 (by omega)) hP hD hS (lv_sub hl [0] rfl)
  exact loop0 ((x2.toInt - x5.toInt).toNat + 1) x5 _ _ _ (by omega) (by first | assumption | omega) (fun i9 h8 h9 => absurd h9 (by omega)) hP hD hS (lv_sub hl [0] rfl)
