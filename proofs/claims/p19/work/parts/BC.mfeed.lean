/-- four bytes of a word come behind the tape -/
def FourR (F : Nat → Int32) (n : Int) (G : Nat → Int32) (a : Int32) : Prop := (∀ i : Int, 0 ≤ i → i < n → G i.toNat = F i.toNat) ∧ ∀ (j : Int) (s : Int32), 0 ≤ j → j < 4 → s.toInt = 24 - 8 * j → G (n + j).toNat = (a >>> (s &&& 31)) &&& 255
/-- two tapes that are one -/
def TpE (F C : Nat → Int32) (n : Int) : Prop := ∀ i : Int, 0 ≤ i → i < n → C i.toNat = F i.toNat
theorem s_ex (j : Int) (h0 : 0 ≤ j) (h1 : j < 4) : ∃ s : Int32, s.toInt = 24 - 8 * j := by
  rcases (show j = 0 ∨ j = 1 ∨ j = 2 ∨ j = 3 by omega) with q | q | q | q <;> rw [q]
  · exact ⟨24, by decide⟩
  · exact ⟨16, by decide⟩
  · exact ⟨8, by decide⟩
  · exact ⟨0, by decide⟩
theorem Four_e {F C G K : Nat → Int32} {n : Int} {a : Int32} (h : TpE F C n) (hn : 0 ≤ n) (hf : FourR F n G a) (hc : FourR C n K a) : TpE G K (n + 4) := by
  intro i i0 i1
  by_cases e : i < n
  · rw [hf.1 i i0 e, hc.1 i i0 e]; exact h i i0 e
  · obtain ⟨s, hs⟩ := s_ex (i - n) (by omega) (by omega)
    have h1 := hf.2 (i - n) s (by omega) (by omega) hs
    have h2 := hc.2 (i - n) s (by omega) (by omega) hs
    rw [show n + (i - n) = i by omega] at h1 h2
    rw [h1, h2]
def FeedR (F : Nat → Int32) (n : Int) (G : Nat → Int32) (a b c d e : Int32) : Prop := ∃ G1 G2 G3 G4 : Nat → Int32, FourR F n G1 a ∧ FourR G1 (n + 4) G2 b ∧ FourR G2 (n + 8) G3 c ∧ FourR G3 (n + 12) G4 d ∧ FourR G4 (n + 16) G e
theorem Feed_e {F C G K : Nat → Int32} {n : Int} {a b c d e : Int32} (h : TpE F C n) (hn : 0 ≤ n) (hf : FeedR F n G a b c d e) (hc : FeedR C n K a b c d e) : TpE G K (n + 20) := by
  obtain ⟨g1, g2, g3, g4, a1, a2, a3, a4, a5⟩ := hf
  obtain ⟨k1, k2, k3, k4, b1, b2, b3, b4, b5⟩ := hc
  have e1 := Four_e h hn a1 b1
  have e2 := Four_e e1 (by omega) a2 b2
  rw [show n + 4 + 4 = n + 8 by omega] at e2
  have e3 := Four_e e2 (by omega) a3 b3
  rw [show n + 8 + 4 = n + 12 by omega] at e3
  have e4 := Four_e e3 (by omega) a4 b4
  rw [show n + 12 + 4 = n + 16 by omega] at e4
  have e5 := Four_e e4 (by omega) a5 b5
  rw [show n + 16 + 4 = n + 20 by omega] at e5
  exact e5
set_option maxRecDepth 100000 in
set_option maxHeartbeats 4000000 in
theorem k_four2 (l : Launch) (D : va_G) (cI cR cM : ClassId) (sz : Nat) {jn mm : Nat} {q : Nat → Nat} {x0 x1 x2 x3 x4 x5 x6 x7 x8 x9 x10 x11 x12 x13 x14 x15 x16 x17 x18 x19 x20 : Int32} {f0 f1 f2 f3 f4 f5 f6 f7 f8 f9 f10 f11 f12 f13 f14 f15 f16 f17 f18 f19 f20 f21 f22 f23 f24 : Nat → Int32} {a : Int32}  (h2 : 0 ≤ x2.toInt ∧ x2.toInt ≤ 296) : Met l yX11_four wsX11_four ({ frames := 0, cells := 0, slots := 0, locals := 0 }) (P0 D cI cR cM [.ref mm, .int a] sz (mX mm q jn cI x0 x1 x2 x3 x4 x5 x6 x7 x8 x9 x10 x11 x12 x13 x14 x15 x16 x17 x18 x19 x20 f0 f1 f2 f3 f4 f5 f6 f7 f8 f9 f10 f11 f12 f13 f14 f15 f16 f17 f18 f19 f20 f21 f22 f23 f24)) (QG (S := Int32 × (Nat → Int32)) (fun u => none) (fun u => mX mm q jn cI x0 x1 (u.1) x3 x4 x5 x6 x7 x8 x9 x10 x11 x12 x13 x14 x15 x16 x17 x18 x19 x20 f0 f1 (u.2) f3 f4 f5 f6 f7 f8 f9 f10 f11 f12 f13 f14 f15 f16 f17 f18 f19 f20 f21 f22 f23 f24) (fun u => (u.1.toInt = x2.toInt + 4) ∧ (FourR f2 x2.toInt u.2 a)) D (va_A (mX mm q jn cI x0 x1 x2 x3 x4 x5 x6 x7 x8 x9 x10 x11 x12 x13 x14 x15 x16 x17 x18 x19 x20 f0 f1 f2 f3 f4 f5 f6 f7 f8 f9 f10 f11 f12 f13 f14 f15 f16 f17 f18 f19 f20 f21 f22 f23 f24) sz)) 0 0 (va_A (mX mm q jn cI x0 x1 x2 x3 x4 x5 x6 x7 x8 x9 x10 x11 x12 x13 x14 x15 x16 x17 x18 x19 x20 f0 f1 f2 f3 f4 f5 f6 f7 f8 f9 f10 f11 f12 f13 f14 f15 f16 f17 f18 f19 f20 f21 f22 f23 f24) sz) := by
  refine go (cc := cX11_four) (maxL := 3) (ret := none) (by decide) rfl (Nat.le_of_ble_eq_true rfl) ?_
  intro p e s m below meth c ls args Q hQ hsz hx hb hr hml hts hown hlocks hnm hP hK hD hl
  subst hsz
  have hD := hD.self (sz := s.heap.size)
  generalize hAe : va_A (mX mm q jn cI x0 x1 x2 x3 x4 x5 x6 x7 x8 x9 x10 x11 x12 x13 x14 x15 x16 x17 x18 x19 x20 f0 f1 f2 f3 f4 f5 f6 f7 f8 f9 f10 f11 f12 f13 f14 f15 f16 f17 f18 f19 f20 f21 f22 f23 f24) s.heap.size = A at hD hQ
  have hA : ∀ q, s.heap.size ≤ q → A q := fun q h => by rw [← hAe]; exact Or.inr h
  have hS : va_S A s.heap s.heap [] := va_S.rf
  have hl : lv_has ls 3 [(0, .ref mm), (1, .int a)] := hl
  refine lv_bipush (v := 24) hx hb dX11_four_0 (by decide) ?_
  refine lv_istore_n (lv' := [(2, .int 24), (0, .ref mm), (1, .int a)]) hx hb dX11_four_2 rfl hl (by decide) rfl (fun ls hl => ?_)
  have loop3 : ∀ (ddloop3 : Nat) (k : Int32) (a2 : Int32) (ga : (Nat → Int32)) (H : Heap) (locs : List Loc) (ls : Array Slot), (k.toInt + 9).toNat < ddloop3 → (-8 ≤ k.toInt ∧ k.toInt ≤ 24) → (k.toInt + 8 * (a2.toInt - x2.toInt) = 24) → (∀ i9 : Int, 0 ≤ i9 → i9 < x2.toInt → ga i9.toNat = f2 i9.toNat) → (∀ (j9 : Int) (s9 : Int32), 0 ≤ j9 → j9 < a2.toInt - x2.toInt → s9.toInt = 24 - 8 * j9 → ga (x2.toInt + j9).toNat = (a >>> (s9 &&& 31)) &&& 255) → va_P D vwCl (mX mm q jn cI x0 x1 a2 x3 x4 x5 x6 x7 x8 x9 x10 x11 x12 x13 x14 x15 x16 x17 x18 x19 x20 f0 f1 ga f3 f4 f5 f6 f7 f8 f9 f10 f11 f12 f13 f14 f15 f16 f17 f18 f19 f20 f21 f22 f23 f24) H → va_D A (mX mm q jn cI x0 x1 a2 x3 x4 x5 x6 x7 x8 x9 x10 x11 x12 x13 x14 x15 x16 x17 x18 x19 x20 f0 f1 ga f3 f4 f5 f6 f7 f8 f9 f10 f11 f12 f13 f14 f15 f16 f17 f18 f19 f20 f21 f22 f23 f24) → va_S A s.heap H locs → lv_has ls 3 [(0, .ref mm), (1, .int a), (2, .int k)] → W p l e ({ frames := 0, cells := 0, slots := 0, locals := 0 }) s m args below meth c H locs 0 0 Q (F0 m 3 ls []) := by
    intro ddloop3
    induction ddloop3 with
    | zero =>
      intro k a2 ga H locs ls hdd
      exact absurd hdd (Nat.not_lt_zero _)
    | succ ddloop3 ih3 =>
      intro k a2 ga H locs ls hdd hk hk2 hq1 hq2 hP hD hS hl
      refine lv_iload_n hx hb dX11_four_3 rfl (lv_at hl 2 rfl) ?_
      refine a_if_lt (u := k.toInt) (tgt := 39) hx hb dX11_four_4 (by decide) (rfl) (fun c_1 => ?_) (fun c_1 => ?_)
      · exact g_vret (a2, ga) hx hb hr hlocks hS rfl (⟨show a2.toInt = x2.toInt + 4 from (by first | assumption | omega), show FourR f2 x2.toInt ga a from (⟨hq1, fun j9 s9 h7 h8 h9 => hq2 j9 s9 h7 (by omega) h9⟩)⟩) hP hD hQ (Nat.le_of_ble_eq_true rfl) (Nat.le_of_ble_eq_true rfl) dX11_four_39
      · refine lv_aload_n hx hb dX11_four_7 rfl (lv_at hl 0 rfl) ?_
        refine va_get (D := D) (ci := 11) (v := .ref (q 2)) (C := RX11) (T := TX11) (N := 47) hx hb hts (by decide +kernel) hown hK.1 hP 0 rfl rfl 5 (by decide) (hts (.fieldLink RX11 17 "JugglingHallModel" "tape" "[I") (by decide +kernel)) (fun _ h9 => h9) rfl dX11_four_8 ?_
        refine lv_aload_n hx hb dX11_four_11 rfl (lv_at hl 0 rfl) ?_
        refine va_get (D := D) (ci := 11) (v := .int a2) (C := RX11) (T := TX11) (N := 47) hx hb hts (by decide +kernel) hown hK.1 hP 0 rfl rfl 6 (by decide) (hts (.fieldLink RX11 110 "JugglingHallModel" "taped" "I") (by decide +kernel)) (fun _ h9 => h9) rfl dX11_four_12 ?_
        refine lv_iload_n hx hb dX11_four_15 rfl (lv_at hl 1 rfl) ?_
        refine lv_iload_n hx hb dX11_four_16 rfl (lv_at hl 2 rfl) ?_
        refine lv_ishr hx hb dX11_four_17 ?_
        refine lv_topi (fun z_2 q_2 => ?_)
        refine lv_sipush (v := 255) hx hb dX11_four_18 (by decide) ?_
        refine lv_iand hx hb dX11_four_21 ?_
        refine lv_topi (fun z_3 q_3 => ?_)
        refine ma_2 (u := a2.toInt) hx hb hK hP hD hS dX11_four_22 (rfl) (by omega) (fun g_4 H locs eg_4 hP hD hS => ?_)
        refine lv_aload_n hx hb dX11_four_23 rfl (lv_at hl 0 rfl) ?_
        refine lv_dup hx hb dX11_four_24 rfl ?_
        refine va_get (D := D) (ci := 11) (v := .int a2) (C := RX11) (T := TX11) (N := 47) hx hb hts (by decide +kernel) hown hK.1 hP 0 rfl rfl 6 (by decide) (hts (.fieldLink RX11 110 "JugglingHallModel" "taped" "I") (by decide +kernel)) (fun _ h9 => h9) rfl dX11_four_25 ?_
        refine lv_iconst (v := 1) hx hb dX11_four_28 (by decide) ?_
        refine a_iadd (u := a2.toInt) (v := 1) hx hb dX11_four_29 (rfl) (by decide) (by omega) (fun z_5 e_5 => ?_)
        refine mp_2 hx hb hts (by decide +kernel) hown hK hP hD hS (hts (.fieldLink RX11 110 "JugglingHallModel" "taped" "I") (by decide +kernel)) dX11_four_30 (fun H locs hP hD hS => ?_)
        obtain ⟨z_6, q_6, e_6⟩ := i_inc (a := k.toInt) (-8) (rfl) (by decide) (by omega) (by omega)
        refine lv_iinc (v := z_6) (lv' := [(2, .int z_6), (0, .ref mm), (1, .int a)]) hx hb dX11_four_33 hl (k := 2) rfl q_6 (by decide) rfl (fun ls hl => ?_)
        refine lv_goto (tgt := 3) hx hb dX11_four_36 (by decide) ?_
        exact ih3 z_6 z_5 g_4 _ _ _ (by omega) (by first | assumption | omega) (by first | assumption | omega) (fun i9 h8 h9 => by rw [eg_4, un_i h8 (by omega) (by omega)]; exact hq1 i9 h8 h9) (fun j9 s9 h7 h8 h9 => by
          by_cases q9 : j9 = a2.toInt - x2.toInt
          · rw [eg_4, show x2.toInt + j9 = a2.toInt by omega, pk_us, q_3, q_2, show s9 = k from Int32.toInt_inj.mp (by omega)]
          · rw [eg_4, un_i (by omega) (by omega) (by omega)]; exact hq2 j9 s9 h7 (by omega) h9) hP hD hS (lv_sub hl [1, 2, 0] rfl)
  have hz_7 : (24 : Int32).toInt = 24 := by decide
  exact loop3 (((24 : Int32).toInt + 9).toNat + 1) (24 : Int32) x2 f2 _ _ _ (by omega) (by first | assumption | omega) (by first | assumption | omega) (fun _ _ _ => rfl) (fun j9 s9 h7 h8 => absurd h8 (by omega)) hP hD hS (lv_sub hl [1, 2, 0] rfl)
set_option maxRecDepth 100000 in
set_option maxHeartbeats 4000000 in
theorem k_feed2 (l : Launch) (D : va_G) (cI cR cM : ClassId) (sz : Nat) {jn mm : Nat} {q : Nat → Nat} {x0 x1 x2 x3 x4 x5 x6 x7 x8 x9 x10 x11 x12 x13 x14 x15 x16 x17 x18 x19 x20 : Int32} {f0 f1 f2 f3 f4 f5 f6 f7 f8 f9 f10 f11 f12 f13 f14 f15 f16 f17 f18 f19 f20 f21 f22 f23 f24 : Nat → Int32} {a b d e9 g9 : Int32}  (h2 : 0 ≤ x2.toInt ∧ x2.toInt ≤ 300) : Met l yX11_feed wsX11_feed ({ frames := 1, cells := 0, slots := 0, locals := 22 }) (P0 D cI cR cM [.ref mm, .int a, .int b, .int d, .int e9, .int g9] sz (mX mm q jn cI x0 x1 x2 x3 x4 x5 x6 x7 x8 x9 x10 x11 x12 x13 x14 x15 x16 x17 x18 x19 x20 f0 f1 f2 f3 f4 f5 f6 f7 f8 f9 f10 f11 f12 f13 f14 f15 f16 f17 f18 f19 f20 f21 f22 f23 f24)) (QG (S := Int32 × Int32 × (Nat → Int32)) (fun u => some (.int u.1)) (fun u => mX mm q jn cI x0 x1 (u.2.1) x3 x4 x5 x6 x7 x8 x9 x10 x11 x12 x13 x14 x15 x16 x17 x18 x19 x20 f0 f1 (u.2.2) f3 f4 f5 f6 f7 f8 f9 f10 f11 f12 f13 f14 f15 f16 f17 f18 f19 f20 f21 f22 f23 f24) (fun u => (0 ≤ u.2.1.toInt ∧ u.2.1.toInt ≤ 300) ∧ (Hd ((280 < x2.toInt ∧ u.1.toInt = -1 ∧ u.2.1 = x2 ∧ u.2.2 = f2) ∨ (x2.toInt ≤ 280 ∧ u.1 = u.2.1 ∧ u.2.1.toInt = x2.toInt + 20 ∧ FeedR f2 x2.toInt u.2.2 a b d e9 g9)))) D (va_A (mX mm q jn cI x0 x1 x2 x3 x4 x5 x6 x7 x8 x9 x10 x11 x12 x13 x14 x15 x16 x17 x18 x19 x20 f0 f1 f2 f3 f4 f5 f6 f7 f8 f9 f10 f11 f12 f13 f14 f15 f16 f17 f18 f19 f20 f21 f22 f23 f24) sz)) 0 0 (va_A (mX mm q jn cI x0 x1 x2 x3 x4 x5 x6 x7 x8 x9 x10 x11 x12 x13 x14 x15 x16 x17 x18 x19 x20 f0 f1 f2 f3 f4 f5 f6 f7 f8 f9 f10 f11 f12 f13 f14 f15 f16 f17 f18 f19 f20 f21 f22 f23 f24) sz) := by
  refine go (cc := cX11_feed) (maxL := 6) (ret := (some .int)) (by decide) rfl (Nat.le_of_ble_eq_true rfl) ?_
  intro p e s m below meth c ls args Q hQ hsz hx hb hr hml hts hown hlocks hnm hP hK hD hl
  subst hsz
  have hD := hD.self (sz := s.heap.size)
  generalize hAe : va_A (mX mm q jn cI x0 x1 x2 x3 x4 x5 x6 x7 x8 x9 x10 x11 x12 x13 x14 x15 x16 x17 x18 x19 x20 f0 f1 f2 f3 f4 f5 f6 f7 f8 f9 f10 f11 f12 f13 f14 f15 f16 f17 f18 f19 f20 f21 f22 f23 f24) s.heap.size = A at hD hQ
  have hA : ∀ q, s.heap.size ≤ q → A q := fun q h => by rw [← hAe]; exact Or.inr h
  have hS : va_S A s.heap s.heap [] := va_S.rf
  have hl : lv_has ls 6 [(0, .ref mm), (1, .int a), (2, .int b), (3, .int d), (4, .int e9), (5, .int g9)] := hl
  refine lv_aload_n hx hb dX11_feed_0 rfl (lv_at hl 0 rfl) ?_
  refine va_get (D := D) (ci := 11) (v := .int x2) (C := RX11) (T := TX11) (N := 47) hx hb hts (by decide +kernel) hown hK.1 hP 0 rfl rfl 6 (by decide) (hts (.fieldLink RX11 110 "JugglingHallModel" "taped" "I") (by decide +kernel)) (fun _ h9 => h9) rfl dX11_feed_1 ?_
  refine lv_bipush (v := 20) hx hb dX11_feed_4 (by decide) ?_
  refine a_iadd (u := x2.toInt) (v := 20) hx hb dX11_feed_6 (rfl) (by decide) (by omega) (fun z_1 e_1 => ?_)
  refine lv_sipush (v := 300) hx hb dX11_feed_7 (by decide) ?_
  refine a_icmp_le (u := (x2.toInt + 20)) (v := 300) (tgt := 15) hx hb dX11_feed_10 (by decide) (e_1) (by decide) (fun c_2 => ?_) (fun c_2 => ?_)
  · refine lv_aload_n hx hb dX11_feed_15 rfl (lv_at hl 0 rfl) ?_
    refine lv_iload_n hx hb dX11_feed_16 rfl (lv_at hl 1 rfl) ?_
    refine call_g (wr := []) (va_runV (As := [.int a]) (rest := []) ⟨hx, hb, hml, hown, hts⟩ (k_four2 l D cI cR cM _  (by first | assumption | omega)) (cwV 1 hts gX11_feed_X11_four rfl rfl rfl (by decide +kernel) ⟨Nat.le_of_ble_eq_true rfl, Nat.le_of_ble_eq_true rfl⟩) (pre_V hK hP hD 0 11 rfl rfl) rfl rfl hl.1 rfl (lv_room (Nat.le_of_ble_eq_true rfl)) dX11_feed_17 ⟨Nat.le_of_ble_eq_true rfl, Nat.le_of_ble_eq_true rfl⟩) hP hD hS hA [0, 1, 2, 3, 4, 5, 6, 7, 8, 9, 10, 11, 12, 13, 14, 15, 16, 17, 18, 19, 20, 21, 22, 23, 24, 25] [] (by with_unfolding_all rfl) rfl (by decide) (by decide) (fun u_3 H locs hw hP hD hS => ?_)
    obtain ⟨y2_3, g2_3⟩ := u_3
    have hP : va_P D vwCl (mX mm q jn cI x0 x1 y2_3 x3 x4 x5 x6 x7 x8 x9 x10 x11 x12 x13 x14 x15 x16 x17 x18 x19 x20 f0 f1 g2_3 f3 f4 f5 f6 f7 f8 f9 f10 f11 f12 f13 f14 f15 f16 f17 f18 f19 f20 f21 f22 f23 f24) H := hP
    have hD : va_D A (mX mm q jn cI x0 x1 y2_3 x3 x4 x5 x6 x7 x8 x9 x10 x11 x12 x13 x14 x15 x16 x17 x18 x19 x20 f0 f1 g2_3 f3 f4 f5 f6 f7 f8 f9 f10 f11 f12 f13 f14 f15 f16 f17 f18 f19 f20 f21 f22 f23 f24) := hD
    obtain ⟨h_3, hF_3⟩ : (y2_3.toInt = x2.toInt + 4) ∧ (FourR f2 x2.toInt g2_3 a) := hw
    refine lv_aload_n hx hb dX11_feed_20 rfl (lv_at hl 0 rfl) ?_
    refine lv_iload_n hx hb dX11_feed_21 rfl (lv_at hl 2 rfl) ?_
    refine call_g (wr := []) (va_runV (As := [.int b]) (rest := []) ⟨hx, hb, hml, hown, hts⟩ (k_four2 l D cI cR cM _  (by first | assumption | omega)) (cwV 1 hts gX11_feed_X11_four rfl rfl rfl (by decide +kernel) ⟨Nat.le_of_ble_eq_true rfl, Nat.le_of_ble_eq_true rfl⟩) (pre_V hK hP hD 0 11 rfl rfl) rfl rfl hl.1 rfl (lv_room (Nat.le_of_ble_eq_true rfl)) dX11_feed_22 ⟨Nat.le_of_ble_eq_true rfl, Nat.le_of_ble_eq_true rfl⟩) hP hD hS hA [0, 1, 2, 3, 4, 5, 6, 7, 8, 9, 10, 11, 12, 13, 14, 15, 16, 17, 18, 19, 20, 21, 22, 23, 24, 25] [] (by with_unfolding_all rfl) rfl (by decide) (by decide) (fun u_4 H locs hw hP hD hS => ?_)
    obtain ⟨y2_4, g2_4⟩ := u_4
    have hP : va_P D vwCl (mX mm q jn cI x0 x1 y2_4 x3 x4 x5 x6 x7 x8 x9 x10 x11 x12 x13 x14 x15 x16 x17 x18 x19 x20 f0 f1 g2_4 f3 f4 f5 f6 f7 f8 f9 f10 f11 f12 f13 f14 f15 f16 f17 f18 f19 f20 f21 f22 f23 f24) H := hP
    have hD : va_D A (mX mm q jn cI x0 x1 y2_4 x3 x4 x5 x6 x7 x8 x9 x10 x11 x12 x13 x14 x15 x16 x17 x18 x19 x20 f0 f1 g2_4 f3 f4 f5 f6 f7 f8 f9 f10 f11 f12 f13 f14 f15 f16 f17 f18 f19 f20 f21 f22 f23 f24) := hD
    obtain ⟨h_4, hF_4⟩ : (y2_4.toInt = y2_3.toInt + 4) ∧ (FourR g2_3 y2_3.toInt g2_4 b) := hw
    refine lv_aload_n hx hb dX11_feed_25 rfl (lv_at hl 0 rfl) ?_
    refine lv_iload_n hx hb dX11_feed_26 rfl (lv_at hl 3 rfl) ?_
    refine call_g (wr := []) (va_runV (As := [.int d]) (rest := []) ⟨hx, hb, hml, hown, hts⟩ (k_four2 l D cI cR cM _  (by first | assumption | omega)) (cwV 1 hts gX11_feed_X11_four rfl rfl rfl (by decide +kernel) ⟨Nat.le_of_ble_eq_true rfl, Nat.le_of_ble_eq_true rfl⟩) (pre_V hK hP hD 0 11 rfl rfl) rfl rfl hl.1 rfl (lv_room (Nat.le_of_ble_eq_true rfl)) dX11_feed_27 ⟨Nat.le_of_ble_eq_true rfl, Nat.le_of_ble_eq_true rfl⟩) hP hD hS hA [0, 1, 2, 3, 4, 5, 6, 7, 8, 9, 10, 11, 12, 13, 14, 15, 16, 17, 18, 19, 20, 21, 22, 23, 24, 25] [] (by with_unfolding_all rfl) rfl (by decide) (by decide) (fun u_5 H locs hw hP hD hS => ?_)
    obtain ⟨y2_5, g2_5⟩ := u_5
    have hP : va_P D vwCl (mX mm q jn cI x0 x1 y2_5 x3 x4 x5 x6 x7 x8 x9 x10 x11 x12 x13 x14 x15 x16 x17 x18 x19 x20 f0 f1 g2_5 f3 f4 f5 f6 f7 f8 f9 f10 f11 f12 f13 f14 f15 f16 f17 f18 f19 f20 f21 f22 f23 f24) H := hP
    have hD : va_D A (mX mm q jn cI x0 x1 y2_5 x3 x4 x5 x6 x7 x8 x9 x10 x11 x12 x13 x14 x15 x16 x17 x18 x19 x20 f0 f1 g2_5 f3 f4 f5 f6 f7 f8 f9 f10 f11 f12 f13 f14 f15 f16 f17 f18 f19 f20 f21 f22 f23 f24) := hD
    obtain ⟨h_5, hF_5⟩ : (y2_5.toInt = y2_4.toInt + 4) ∧ (FourR g2_4 y2_4.toInt g2_5 d) := hw
    refine lv_aload_n hx hb dX11_feed_30 rfl (lv_at hl 0 rfl) ?_
    refine lv_iload hx hb dX11_feed_31 (lv_at hl 4 rfl) ?_
    refine call_g (wr := []) (va_runV (As := [.int e9]) (rest := []) ⟨hx, hb, hml, hown, hts⟩ (k_four2 l D cI cR cM _  (by first | assumption | omega)) (cwV 1 hts gX11_feed_X11_four rfl rfl rfl (by decide +kernel) ⟨Nat.le_of_ble_eq_true rfl, Nat.le_of_ble_eq_true rfl⟩) (pre_V hK hP hD 0 11 rfl rfl) rfl rfl hl.1 rfl (lv_room (Nat.le_of_ble_eq_true rfl)) dX11_feed_33 ⟨Nat.le_of_ble_eq_true rfl, Nat.le_of_ble_eq_true rfl⟩) hP hD hS hA [0, 1, 2, 3, 4, 5, 6, 7, 8, 9, 10, 11, 12, 13, 14, 15, 16, 17, 18, 19, 20, 21, 22, 23, 24, 25] [] (by with_unfolding_all rfl) rfl (by decide) (by decide) (fun u_6 H locs hw hP hD hS => ?_)
    obtain ⟨y2_6, g2_6⟩ := u_6
    have hP : va_P D vwCl (mX mm q jn cI x0 x1 y2_6 x3 x4 x5 x6 x7 x8 x9 x10 x11 x12 x13 x14 x15 x16 x17 x18 x19 x20 f0 f1 g2_6 f3 f4 f5 f6 f7 f8 f9 f10 f11 f12 f13 f14 f15 f16 f17 f18 f19 f20 f21 f22 f23 f24) H := hP
    have hD : va_D A (mX mm q jn cI x0 x1 y2_6 x3 x4 x5 x6 x7 x8 x9 x10 x11 x12 x13 x14 x15 x16 x17 x18 x19 x20 f0 f1 g2_6 f3 f4 f5 f6 f7 f8 f9 f10 f11 f12 f13 f14 f15 f16 f17 f18 f19 f20 f21 f22 f23 f24) := hD
    obtain ⟨h_6, hF_6⟩ : (y2_6.toInt = y2_5.toInt + 4) ∧ (FourR g2_5 y2_5.toInt g2_6 e9) := hw
    refine lv_aload_n hx hb dX11_feed_36 rfl (lv_at hl 0 rfl) ?_
    refine lv_iload hx hb dX11_feed_37 (lv_at hl 5 rfl) ?_
    refine call_g (wr := []) (va_runV (As := [.int g9]) (rest := []) ⟨hx, hb, hml, hown, hts⟩ (k_four2 l D cI cR cM _  (by first | assumption | omega)) (cwV 1 hts gX11_feed_X11_four rfl rfl rfl (by decide +kernel) ⟨Nat.le_of_ble_eq_true rfl, Nat.le_of_ble_eq_true rfl⟩) (pre_V hK hP hD 0 11 rfl rfl) rfl rfl hl.1 rfl (lv_room (Nat.le_of_ble_eq_true rfl)) dX11_feed_39 ⟨Nat.le_of_ble_eq_true rfl, Nat.le_of_ble_eq_true rfl⟩) hP hD hS hA [0, 1, 2, 3, 4, 5, 6, 7, 8, 9, 10, 11, 12, 13, 14, 15, 16, 17, 18, 19, 20, 21, 22, 23, 24, 25] [] (by with_unfolding_all rfl) rfl (by decide) (by decide) (fun u_7 H locs hw hP hD hS => ?_)
    obtain ⟨y2_7, g2_7⟩ := u_7
    have hP : va_P D vwCl (mX mm q jn cI x0 x1 y2_7 x3 x4 x5 x6 x7 x8 x9 x10 x11 x12 x13 x14 x15 x16 x17 x18 x19 x20 f0 f1 g2_7 f3 f4 f5 f6 f7 f8 f9 f10 f11 f12 f13 f14 f15 f16 f17 f18 f19 f20 f21 f22 f23 f24) H := hP
    have hD : va_D A (mX mm q jn cI x0 x1 y2_7 x3 x4 x5 x6 x7 x8 x9 x10 x11 x12 x13 x14 x15 x16 x17 x18 x19 x20 f0 f1 g2_7 f3 f4 f5 f6 f7 f8 f9 f10 f11 f12 f13 f14 f15 f16 f17 f18 f19 f20 f21 f22 f23 f24) := hD
    obtain ⟨h_7, hF_7⟩ : (y2_7.toInt = y2_6.toInt + 4) ∧ (FourR g2_6 y2_6.toInt g2_7 g9) := hw
    refine lv_aload_n hx hb dX11_feed_42 rfl (lv_at hl 0 rfl) ?_
    refine va_get (D := D) (ci := 11) (v := .int y2_7) (C := RX11) (T := TX11) (N := 47) hx hb hts (by decide +kernel) hown hK.1 hP 0 rfl rfl 6 (by decide) (hts (.fieldLink RX11 110 "JugglingHallModel" "taped" "I") (by decide +kernel)) (fun _ h9 => h9) rfl dX11_feed_43 ?_
    exact g_iret (y2_7, y2_7, g2_7) hx hb hr hlocks hS rfl (⟨show 0 ≤ y2_7.toInt ∧ y2_7.toInt ≤ 300 from (by first | assumption | omega), show Hd ((280 < x2.toInt ∧ y2_7.toInt = -1 ∧ y2_7 = x2 ∧ g2_7 = f2) ∨ (x2.toInt ≤ 280 ∧ y2_7 = y2_7 ∧ y2_7.toInt = x2.toInt + 20 ∧ FeedR f2 x2.toInt g2_7 a b d e9 g9)) from (by
      have t1 : FourR g2_3 (x2.toInt + 4) g2_4 b := by rw [show x2.toInt + 4 = y2_3.toInt by omega]; exact hF_4
      have t2 : FourR g2_4 (x2.toInt + 8) g2_5 d := by rw [show x2.toInt + 8 = y2_4.toInt by omega]; exact hF_5
      have t3 : FourR g2_5 (x2.toInt + 12) g2_6 e9 := by rw [show x2.toInt + 12 = y2_5.toInt by omega]; exact hF_6
      have t4 : FourR g2_6 (x2.toInt + 16) g2_7 g9 := by rw [show x2.toInt + 16 = y2_6.toInt by omega]; exact hF_7
      exact Or.inr ⟨by omega, rfl, by omega, g2_3, g2_4, g2_5, g2_6, hF_3, t1, t2, t3, t4⟩)⟩) hP hD hQ (Nat.le_of_ble_eq_true rfl) (Nat.le_of_ble_eq_true rfl) dX11_feed_46
  · refine lv_iconst (v := (-1)) hx hb dX11_feed_13 (by decide) ?_
    have hz_8 : (-1 : Int32).toInt = (-1) := by decide
    exact g_iret ((-1 : Int32), x2, f2) hx hb hr hlocks hS rfl (⟨show 0 ≤ x2.toInt ∧ x2.toInt ≤ 300 from (by first | assumption | omega), show Hd ((280 < x2.toInt ∧ (-1 : Int32).toInt = -1 ∧ x2 = x2 ∧ f2 = f2) ∨ (x2.toInt ≤ 280 ∧ (-1 : Int32) = x2 ∧ x2.toInt = x2.toInt + 20 ∧ FeedR f2 x2.toInt f2 a b d e9 g9)) from (Or.inl ⟨by omega, by decide, rfl, rfl⟩)⟩) hP hD hQ (Nat.le_of_ble_eq_true rfl) (Nat.le_of_ble_eq_true rfl) dX11_feed_14
set_option maxRecDepth 100000 in
set_option maxHeartbeats 4000000 in
theorem k_end2 (l : Launch) (D : va_G) (cI cR cM : ClassId) (sz : Nat) {jn mm : Nat} {q : Nat → Nat} {x0 x1 x2 x3 x4 x5 x6 x7 x8 x9 x10 x11 x12 x13 x14 x15 x16 x17 x18 x19 x20 : Int32} {f0 f1 f2 f3 f4 f5 f6 f7 f8 f9 f10 f11 f12 f13 f14 f15 f16 f17 f18 f19 f20 f21 f22 f23 f24 : Nat → Int32} {a : Int32}  (h2 : 0 ≤ x2.toInt ∧ x2.toInt ≤ 300) : Met l yX11_end wsX11_end ({ frames := 1, cells := 0, slots := 0, locals := 22 }) (P0 D cI cR cM [.ref mm, .int a] sz (mX mm q jn cI x0 x1 x2 x3 x4 x5 x6 x7 x8 x9 x10 x11 x12 x13 x14 x15 x16 x17 x18 x19 x20 f0 f1 f2 f3 f4 f5 f6 f7 f8 f9 f10 f11 f12 f13 f14 f15 f16 f17 f18 f19 f20 f21 f22 f23 f24)) (QG (S := Int32 × Int32) (fun u => some (.int u.1)) (fun u => mX mm q jn cI x0 x1 (u.2) x3 x4 x5 x6 x7 x8 x9 x10 x11 x12 x13 x14 x15 x16 x17 x18 x19 x20 f0 f1 f2 f3 f4 f5 f6 f7 f8 f9 f10 f11 f12 f13 f14 f15 f16 f17 f18 f19 f20 f21 f22 f23 f24) (fun u => (0 ≤ u.2.toInt ∧ u.2.toInt ≤ 300) ∧ ((0 ≤ a.toInt ∧ a.toInt ≤ x2.toInt ∧ u.2 = a) ∨ (¬ (0 ≤ a.toInt ∧ a.toInt ≤ x2.toInt) ∧ u.2 = x2))) D (va_A (mX mm q jn cI x0 x1 x2 x3 x4 x5 x6 x7 x8 x9 x10 x11 x12 x13 x14 x15 x16 x17 x18 x19 x20 f0 f1 f2 f3 f4 f5 f6 f7 f8 f9 f10 f11 f12 f13 f14 f15 f16 f17 f18 f19 f20 f21 f22 f23 f24) sz)) 0 0 (va_A (mX mm q jn cI x0 x1 x2 x3 x4 x5 x6 x7 x8 x9 x10 x11 x12 x13 x14 x15 x16 x17 x18 x19 x20 f0 f1 f2 f3 f4 f5 f6 f7 f8 f9 f10 f11 f12 f13 f14 f15 f16 f17 f18 f19 f20 f21 f22 f23 f24) sz) := by
  refine go (cc := cX11_end) (maxL := 2) (ret := (some .int)) (by decide) rfl (Nat.le_of_ble_eq_true rfl) ?_
  intro p e s m below meth c ls args Q hQ hsz hx hb hr hml hts hown hlocks hnm hP hK hD hl
  subst hsz
  have hD := hD.self (sz := s.heap.size)
  generalize hAe : va_A (mX mm q jn cI x0 x1 x2 x3 x4 x5 x6 x7 x8 x9 x10 x11 x12 x13 x14 x15 x16 x17 x18 x19 x20 f0 f1 f2 f3 f4 f5 f6 f7 f8 f9 f10 f11 f12 f13 f14 f15 f16 f17 f18 f19 f20 f21 f22 f23 f24) s.heap.size = A at hD hQ
  have hA : ∀ q, s.heap.size ≤ q → A q := fun q h => by rw [← hAe]; exact Or.inr h
  have hS : va_S A s.heap s.heap [] := va_S.rf
  have hl : lv_has ls 2 [(0, .ref mm), (1, .int a)] := hl
  refine lv_iload_n hx hb dX11_end_0 rfl (lv_at hl 1 rfl) ?_
  refine lv_iconst (v := 0) hx hb dX11_end_1 (by decide) ?_
  refine lv_aload_n hx hb dX11_end_2 rfl (lv_at hl 0 rfl) ?_
  refine va_get (D := D) (ci := 11) (v := .int x2) (C := RX11) (T := TX11) (N := 47) hx hb hts (by decide +kernel) hown hK.1 hP 0 rfl rfl 6 (by decide) (hts (.fieldLink RX11 110 "JugglingHallModel" "taped" "I") (by decide +kernel)) (fun _ h9 => h9) rfl dX11_end_3 ?_
  have hz_1 : (0 : Int32).toInt = 0 := by decide
  refine roP (va_runS (As := [.int a, .int 0, .int x2]) (rest := []) ⟨hx, hb, hml, hown, hts⟩ (k_isIn l D cI cR cM _  ) (va_cwS 3 hts gX11_end_X11_isIn rfl rfl rfl (by decide +kernel) ⟨Nat.le_of_ble_eq_true rfl, Nat.le_of_ble_eq_true rfl⟩) (pre_S hK va_P_nil (va_D_nil (A := fun _ => True))) rfl rfl hl.1 rfl (lv_room (Nat.le_of_ble_eq_true rfl)) dX11_end_6 ⟨Nat.le_of_ble_eq_true rfl, Nat.le_of_ble_eq_true rfl⟩) hS hA hP (fun r_2 H locs hw hP hS => ?_)
  have h_2 : ((r_2.toInt = 1 ∧ (0 : Int32).toInt ≤ a.toInt ∧ a.toInt ≤ x2.toInt) ∨ (r_2.toInt = 0 ∧ (a.toInt < (0 : Int32).toInt ∨ x2.toInt < a.toInt))) := hw
  refine a_if_ne (u := r_2.toInt) (tgt := 14) hx hb dX11_end_9 (by decide) (rfl) (fun c_3 => ?_) (fun c_3 => ?_)
  · refine lv_aload_n hx hb dX11_end_14 rfl (lv_at hl 0 rfl) ?_
    refine lv_iload_n hx hb dX11_end_15 rfl (lv_at hl 1 rfl) ?_
    refine mp_2 hx hb hts (by decide +kernel) hown hK hP hD hS (hts (.fieldLink RX11 110 "JugglingHallModel" "taped" "I") (by decide +kernel)) dX11_end_16 (fun H locs hP hD hS => ?_)
    refine lv_iload_n hx hb dX11_end_19 rfl (lv_at hl 1 rfl) ?_
    exact g_iret (a, a) hx hb hr hlocks hS rfl (⟨show 0 ≤ a.toInt ∧ a.toInt ≤ 300 from (by first | assumption | omega), show (0 ≤ a.toInt ∧ a.toInt ≤ x2.toInt ∧ a = a) ∨ (¬ (0 ≤ a.toInt ∧ a.toInt ≤ x2.toInt) ∧ a = x2) from (by first | exact Or.inl ⟨by omega, by omega, rfl⟩ | exact Or.inr ⟨by omega, rfl⟩)⟩) hP hD hQ (Nat.le_of_ble_eq_true rfl) (Nat.le_of_ble_eq_true rfl) dX11_end_20
  · refine lv_iconst (v := (-1)) hx hb dX11_end_12 (by decide) ?_
    have hz_4 : (-1 : Int32).toInt = (-1) := by decide
    exact g_iret ((-1 : Int32), x2) hx hb hr hlocks hS rfl (⟨show 0 ≤ x2.toInt ∧ x2.toInt ≤ 300 from (by first | assumption | omega), show (0 ≤ a.toInt ∧ a.toInt ≤ x2.toInt ∧ x2 = a) ∨ (¬ (0 ≤ a.toInt ∧ a.toInt ≤ x2.toInt) ∧ x2 = x2) from (by first | exact Or.inl ⟨by omega, by omega, rfl⟩ | exact Or.inr ⟨by omega, rfl⟩)⟩) hP hD hQ (Nat.le_of_ble_eq_true rfl) (Nat.le_of_ble_eq_true rfl) dX11_end_13
set_option maxRecDepth 100000 in
set_option maxHeartbeats 4000000 in
theorem k_look2 (l : Launch) (D : va_G) (cI cR cM : ClassId) (sz : Nat) {jn mm : Nat} {q : Nat → Nat} {x0 x1 x2 x3 x4 x5 x6 x7 x8 x9 x10 x11 x12 x13 x14 x15 x16 x17 x18 x19 x20 : Int32} {f0 f1 f2 f3 f4 f5 f6 f7 f8 f9 f10 f11 f12 f13 f14 f15 f16 f17 f18 f19 f20 f21 f22 f23 f24 : Nat → Int32} {a : Int32}  (h0 : 0 ≤ x0.toInt ∧ x0.toInt ≤ 60) (h1 : 0 ≤ x1.toInt ∧ x1.toInt ≤ x0.toInt) : Met l yX11_look wsX11_look ({ frames := 1, cells := 0, slots := 0, locals := 22 }) (P0 D cI cR cM [.ref mm, .int a] sz (mX mm q jn cI x0 x1 x2 x3 x4 x5 x6 x7 x8 x9 x10 x11 x12 x13 x14 x15 x16 x17 x18 x19 x20 f0 f1 f2 f3 f4 f5 f6 f7 f8 f9 f10 f11 f12 f13 f14 f15 f16 f17 f18 f19 f20 f21 f22 f23 f24)) (QG (S := Int32 × Int32) (fun u => some (.int u.1)) (fun u => mX mm q jn cI x0 (u.2) x2 x3 x4 x5 x6 x7 x8 x9 x10 x11 x12 x13 x14 x15 x16 x17 x18 x19 x20 f0 f1 f2 f3 f4 f5 f6 f7 f8 f9 f10 f11 f12 f13 f14 f15 f16 f17 f18 f19 f20 f21 f22 f23 f24) (fun u => (0 ≤ u.2.toInt ∧ u.2.toInt ≤ x0.toInt) ∧ ((0 ≤ a.toInt ∧ a.toInt ≤ x0.toInt ∧ u.2 = a) ∨ (¬ (0 ≤ a.toInt ∧ a.toInt ≤ x0.toInt) ∧ u.2 = x1))) D (va_A (mX mm q jn cI x0 x1 x2 x3 x4 x5 x6 x7 x8 x9 x10 x11 x12 x13 x14 x15 x16 x17 x18 x19 x20 f0 f1 f2 f3 f4 f5 f6 f7 f8 f9 f10 f11 f12 f13 f14 f15 f16 f17 f18 f19 f20 f21 f22 f23 f24) sz)) 0 0 (va_A (mX mm q jn cI x0 x1 x2 x3 x4 x5 x6 x7 x8 x9 x10 x11 x12 x13 x14 x15 x16 x17 x18 x19 x20 f0 f1 f2 f3 f4 f5 f6 f7 f8 f9 f10 f11 f12 f13 f14 f15 f16 f17 f18 f19 f20 f21 f22 f23 f24) sz) := by
  refine go (cc := cX11_look) (maxL := 2) (ret := (some .boolean)) (by decide) rfl (Nat.le_of_ble_eq_true rfl) ?_
  intro p e s m below meth c ls args Q hQ hsz hx hb hr hml hts hown hlocks hnm hP hK hD hl
  subst hsz
  have hD := hD.self (sz := s.heap.size)
  generalize hAe : va_A (mX mm q jn cI x0 x1 x2 x3 x4 x5 x6 x7 x8 x9 x10 x11 x12 x13 x14 x15 x16 x17 x18 x19 x20 f0 f1 f2 f3 f4 f5 f6 f7 f8 f9 f10 f11 f12 f13 f14 f15 f16 f17 f18 f19 f20 f21 f22 f23 f24) s.heap.size = A at hD hQ
  have hA : ∀ q, s.heap.size ≤ q → A q := fun q h => by rw [← hAe]; exact Or.inr h
  have hS : va_S A s.heap s.heap [] := va_S.rf
  have hl : lv_has ls 2 [(0, .ref mm), (1, .int a)] := hl
  refine lv_iload_n hx hb dX11_look_0 rfl (lv_at hl 1 rfl) ?_
  refine lv_iconst (v := 0) hx hb dX11_look_1 (by decide) ?_
  refine lv_aload_n hx hb dX11_look_2 rfl (lv_at hl 0 rfl) ?_
  refine va_get (D := D) (ci := 11) (v := .int x0) (C := RX11) (T := TX11) (N := 47) hx hb hts (by decide +kernel) hown hK.1 hP 0 rfl rfl 3 (by decide) (hts (.fieldLink RX11 185 "JugglingHallModel" "time" "I") (by decide +kernel)) (fun _ h9 => h9) rfl dX11_look_3 ?_
  have hz_1 : (0 : Int32).toInt = 0 := by decide
  refine roP (va_runS (As := [.int a, .int 0, .int x0]) (rest := []) ⟨hx, hb, hml, hown, hts⟩ (k_isIn l D cI cR cM _  ) (va_cwS 3 hts gX11_look_X11_isIn rfl rfl rfl (by decide +kernel) ⟨Nat.le_of_ble_eq_true rfl, Nat.le_of_ble_eq_true rfl⟩) (pre_S hK va_P_nil (va_D_nil (A := fun _ => True))) rfl rfl hl.1 rfl (lv_room (Nat.le_of_ble_eq_true rfl)) dX11_look_6 ⟨Nat.le_of_ble_eq_true rfl, Nat.le_of_ble_eq_true rfl⟩) hS hA hP (fun r_2 H locs hw hP hS => ?_)
  have h_2 : ((r_2.toInt = 1 ∧ (0 : Int32).toInt ≤ a.toInt ∧ a.toInt ≤ x0.toInt) ∨ (r_2.toInt = 0 ∧ (a.toInt < (0 : Int32).toInt ∨ x0.toInt < a.toInt))) := hw
  refine a_if_ne (u := r_2.toInt) (tgt := 14) hx hb dX11_look_9 (by decide) (rfl) (fun c_3 => ?_) (fun c_3 => ?_)
  · refine lv_aload_n hx hb dX11_look_14 rfl (lv_at hl 0 rfl) ?_
    refine lv_iload_n hx hb dX11_look_15 rfl (lv_at hl 1 rfl) ?_
    refine mp_1 hx hb hts (by decide +kernel) hown hK hP hD hS (hts (.fieldLink RX11 104 "JugglingHallModel" "looked" "I") (by decide +kernel)) dX11_look_16 (fun H locs hP hD hS => ?_)
    refine lv_iconst (v := 1) hx hb dX11_look_19 (by decide) ?_
    have hz_4 : (1 : Int32).toInt = 1 := by decide
    exact g_zret ((1 : Int32), a) hx hb hr hlocks hS (by first | exact Or.inl rfl | exact Or.inr rfl) rfl (⟨show 0 ≤ a.toInt ∧ a.toInt ≤ x0.toInt from (by first | assumption | omega), show (0 ≤ a.toInt ∧ a.toInt ≤ x0.toInt ∧ a = a) ∨ (¬ (0 ≤ a.toInt ∧ a.toInt ≤ x0.toInt) ∧ a = x1) from (by first | exact Or.inl ⟨by omega, by omega, rfl⟩ | exact Or.inr ⟨by omega, rfl⟩)⟩) hP hD hQ (Nat.le_of_ble_eq_true rfl) (Nat.le_of_ble_eq_true rfl) dX11_look_20
  · refine lv_iconst (v := 0) hx hb dX11_look_12 (by decide) ?_
    have hz_5 : (0 : Int32).toInt = 0 := by decide
    exact g_zret ((0 : Int32), x1) hx hb hr hlocks hS (by first | exact Or.inl rfl | exact Or.inr rfl) rfl (⟨show 0 ≤ x1.toInt ∧ x1.toInt ≤ x0.toInt from (by first | assumption | omega), show (0 ≤ a.toInt ∧ a.toInt ≤ x0.toInt ∧ x1 = a) ∨ (¬ (0 ≤ a.toInt ∧ a.toInt ≤ x0.toInt) ∧ x1 = x1) from (by first | exact Or.inl ⟨by omega, by omega, rfl⟩ | exact Or.inr ⟨by omega, rfl⟩)⟩) hP hD hQ (Nat.le_of_ble_eq_true rfl) (Nat.le_of_ble_eq_true rfl) dX11_look_13
