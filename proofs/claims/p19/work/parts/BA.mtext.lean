/-- a clause that was read: the step of the text, and what is held then -/
def ClR (P ks vs : Nat → Int) (i : Nat) (E : Env1) (F : Int → Int) (R M C : Nat → Int32) (T : Int) (b5 b7 b8 : Int32) : Prop := ∃ (ic : Nat) (E1 : Env1) (F1 : Int → Int), Clp ks vs (i, E, F) (ic + 1, E1, F1) ∧ CU P ks vs ic b5 b7 b8 ∧ EnvF R M C T E1 ∧ EOk E1 ∧ TF1 M F1
theorem clr_row {P ks vs : Nat → Int} {i : Nat} {E : Env1} {F : Int → Int} {R M C M2 C2 g3 : Nat → Int32} {T l t : Int} {b5 b7 b8 : Int32} (h5 : ks i = 5) (h2 : ks (i + 1) = 2) (h61 : ks (i + 2) = 61) (hv : l = vs (i + 1)) (hq : SqR P ks vs E (i + 3) b5 b7 b8 t g3) (h59 : b7.toInt = 59) (hE : EnvF R M C T E) (hO : EOk E) (hT : TF1 M F) (hb : ∀ k : Int, 0 ≤ k → k < 8 → (M k.toNat).toInt ≤ 24) (hl : 0 ≤ l ∧ l < 8) (ht : t ≤ 24) (h1 : ∀ i : Int, 0 ≤ i → i ≠ l → M2 i.toNat = M i.toNat) (hm : (M2 l.toNat).toInt = t) (h3 : ∀ i : Int, 0 ≤ i → (i < 144 * l ∨ 144 * l + 144 ≤ i) → C2 i.toNat = C i.toNat) (h4 : ∀ i : Int, 0 ≤ i → i < 6 * t → C2 (144 * l + i).toNat = g3 i.toNat) : ClR P ks vs i E F R M2 C2 T b5 b7 b8 := by
  obtain ⟨ic, o, mt, w, st, op, dg, q1, q2, q3, q4, q5⟩ := hq
  refine ⟨ic, eup E l (t, w), fupd F l 1, ?_, q2, env_set hE hb hl ⟨q5, ht⟩ h1 hm h3 h4 q3, EOk_set hO ⟨q5, ht⟩ q4, TF1_set hT q5 h1 hm⟩
  unfold Clp
  dsimp only
  exact Or.inl ⟨h5, h2, h61, ic, t, o, mt, w, st, op, dg, q1, by rw [← q2.2.1]; exact h59, by rw [hv]⟩
theorem clr_seen {P ks vs : Nat → Int} {i n : Nat} {E : Env1} {F : Int → Int} {R M C : Nat → Int32} {T : Int} {b5 b7 b8 : Int32} (h6 : ks i = 6) (hn : 1 ≤ n ∧ n ≤ 7) (hm : ∀ k : Nat, 1 ≤ k → k ≤ n → Mrk (ks (i + k))) (hc : CU P ks vs (i + 1 + n) b5 b7 b8) (h59 : b7.toInt = 59) (hE : EnvF R M C T E) (hO : EOk E) (hT : TF1 M F) : ClR P ks vs i E F R M C T b5 b7 b8 := by
  refine ⟨i + n + 1, E, F, ?_, by rw [show i + n + 1 = i + 1 + n by omega]; exact hc, hE, hO, hT⟩
  unfold Clp
  dsimp only
  exact Or.inr ⟨h6, n, hn.1, hn.2, hm, by rw [show i + n + 1 = i + 1 + n by omega, ← hc.2.1]; exact h59, rfl⟩
set_option maxRecDepth 100000 in
set_option maxHeartbeats 4000000 in
theorem k_seenClause3 (l : Launch) (D : va_G) (cI cR cM : ClassId) (sz : Nat) {jn mm : Nat} {q : Nat → Nat} {x0 x1 x2 x3 x4 x5 x6 x7 x8 x9 x10 x11 x12 x13 x14 x15 x16 x17 x18 x19 x20 : Int32} {f0 f1 f2 f3 f4 f5 f6 f7 f8 f9 f10 f11 f12 f13 f14 f15 f16 f17 f18 f19 f20 f21 f22 f23 f24 : Nat → Int32} {P ks vs : Nat → Int} {i : Nat} {E : Env1} {F : Int → Int} (ht : 0 ≤ x2.toInt ∧ x2.toInt ≤ 300) (h5 : 0 ≤ x5.toInt ∧ x5.toInt ≤ x2.toInt) (hT : TokOK x7 x8) (hj : 1 ≤ jn ∧ jn ≤ 3) (hM : MK f11) (hFm : FM f10) (hj1 : jn = 1) (hSM : SM (sE f2 x2.toInt) P ks vs) (hCU : CU P ks vs i x5 x7 x8) (hk6 : ks i = 6) (hE : EnvF f0 f8 f9 x0.toInt E) (hEO : EOk E) (hTF : TF1 f8 F) : Met l yX11_seenClause wsX11_seenClause ({ frames := 4, cells := 0, slots := 0, locals := 88 }) (P0 D cI cR cM [.ref mm] sz (mX mm q jn cI x0 x1 x2 x3 x4 x5 x6 x7 x8 x9 x10 x11 x12 x13 x14 x15 x16 x17 x18 x19 x20 f0 f1 f2 f3 f4 f5 f6 f7 f8 f9 f10 f11 f12 f13 f14 f15 f16 f17 f18 f19 f20 f21 f22 f23 f24)) (QG (S := Int32 × Int32 × Int32 × Int32 × Int32 × Int32 × (Nat → Int32) × (Nat → Int32)) (fun u => some (.int u.1)) (fun u => mX mm q jn cI x0 x1 x2 x3 x4 (u.2.1) (u.2.2.1) (u.2.2.2.1) (u.2.2.2.2.1) (u.2.2.2.2.2.1) x10 x11 x12 x13 x14 x15 x16 x17 x18 x19 x20 f0 f1 f2 f3 f4 f5 f6 f7 f8 f9 (u.2.2.2.2.2.2.1) (u.2.2.2.2.2.2.2) f12 f13 f14 f15 f16 f17 f18 f19 f20 f21 f22 f23 f24) (fun u => (x5.toInt ≤ u.2.1.toInt ∧ u.2.1.toInt ≤ x2.toInt) ∧ (TokOK u.2.2.2.1 u.2.2.2.2.1) ∧ (MK u.2.2.2.2.2.2.2) ∧ (FM u.2.2.2.2.2.2.1) ∧ (Hd ((u.1.toInt = 0 ∧ ClR P ks vs i E F f0 f8 f9 x0.toInt u.2.1 u.2.2.2.1 u.2.2.2.2.1) ∨ (u.1.toInt ≠ 0 ∧ TFls ks vs (i, E, F))))) D (va_A (mX mm q jn cI x0 x1 x2 x3 x4 x5 x6 x7 x8 x9 x10 x11 x12 x13 x14 x15 x16 x17 x18 x19 x20 f0 f1 f2 f3 f4 f5 f6 f7 f8 f9 f10 f11 f12 f13 f14 f15 f16 f17 f18 f19 f20 f21 f22 f23 f24) sz)) 0 0 (va_A (mX mm q jn cI x0 x1 x2 x3 x4 x5 x6 x7 x8 x9 x10 x11 x12 x13 x14 x15 x16 x17 x18 x19 x20 f0 f1 f2 f3 f4 f5 f6 f7 f8 f9 f10 f11 f12 f13 f14 f15 f16 f17 f18 f19 f20 f21 f22 f23 f24) sz) := by
  refine go (cc := cX11_seenClause) (maxL := 3) (ret := (some .int)) (by decide) rfl (Nat.le_of_ble_eq_true rfl) ?_
  intro p e s m below meth c ls args Q hQ hsz hx hb hr hml hts hown hlocks hnm hP hK hD hl
  subst hsz
  have hD := hD.self (sz := s.heap.size)
  generalize hAe : va_A (mX mm q jn cI x0 x1 x2 x3 x4 x5 x6 x7 x8 x9 x10 x11 x12 x13 x14 x15 x16 x17 x18 x19 x20 f0 f1 f2 f3 f4 f5 f6 f7 f8 f9 f10 f11 f12 f13 f14 f15 f16 f17 f18 f19 f20 f21 f22 f23 f24) s.heap.size = A at hD hQ
  have hA : ∀ q, s.heap.size ≤ q → A q := fun q h => by rw [← hAe]; exact Or.inr h
  have hS : va_S A s.heap s.heap [] := va_S.rf
  have hl : lv_has ls 3 [(0, .ref mm)] := hl
  have hcu0 := hCU
  obtain ⟨u1_0, u2_0, u3_0⟩ := hcu0
  refine lv_aload_n hx hb dX11_seenClause_0 rfl (lv_at hl 0 rfl) ?_
  refine call_g (wr := []) (va_runV (As := []) (rest := []) ⟨hx, hb, hml, hown, hts⟩ (k_next2 l D cI cR cM _  (by first | assumption | omega) (by first | assumption | omega)) (cwV 0 hts gX11_seenClause_X11_nextToken rfl rfl rfl (by decide +kernel) ⟨Nat.le_of_ble_eq_true rfl, Nat.le_of_ble_eq_true rfl⟩) (pre_V hK hP hD 0 11 rfl rfl) rfl rfl hl.1 rfl (lv_room (Nat.le_of_ble_eq_true rfl)) dX11_seenClause_1 ⟨Nat.le_of_ble_eq_true rfl, Nat.le_of_ble_eq_true rfl⟩) hP hD hS hA [0, 1, 2, 3, 4, 5, 6, 7, 8, 9, 10, 11, 12, 13, 14, 15, 16, 17, 18, 19, 20, 21, 22, 23, 24, 25] [] (by with_unfolding_all rfl) rfl (by decide) (by decide) (fun u_1 H locs hw hP hD hS => ?_)
  obtain ⟨y5_1, y6_1, y7_1, y8_1⟩ := u_1
  have hP : va_P D vwCl (mX mm q jn cI x0 x1 x2 x3 x4 y5_1 y6_1 y7_1 y8_1 x9 x10 x11 x12 x13 x14 x15 x16 x17 x18 x19 x20 f0 f1 f2 f3 f4 f5 f6 f7 f8 f9 f10 f11 f12 f13 f14 f15 f16 f17 f18 f19 f20 f21 f22 f23 f24) H := hP
  have hD : va_D A (mX mm q jn cI x0 x1 x2 x3 x4 y5_1 y6_1 y7_1 y8_1 x9 x10 x11 x12 x13 x14 x15 x16 x17 x18 x19 x20 f0 f1 f2 f3 f4 f5 f6 f7 f8 f9 f10 f11 f12 f13 f14 f15 f16 f17 f18 f19 f20 f21 f22 f23 f24) := hD
  obtain ⟨ha_1, hp_1, hk_1, hT_1, hR_1⟩ : (x5.toInt ≤ y5_1.toInt ∧ y5_1.toInt ≤ x2.toInt) ∧ (0 ≤ y6_1.toInt ∧ y6_1.toInt ≤ 300) ∧ (y7_1.toInt = 0 ∨ x5.toInt < y5_1.toInt) ∧ (TokOK y7_1 y8_1) ∧ (∃ v9 : Int, TkR (sE f2 x2.toInt) x5.toInt y7_1.toInt v9 y6_1.toInt y5_1.toInt ∧ (y7_1.toInt = 1 ∨ y7_1.toInt = 2 → y8_1.toInt = v9)) := hw
  obtain ⟨v9_1, q1_1, q2_1⟩ := hR_1
  have hcu_1 : CU P ks vs (i + 1) y5_1 y7_1 y8_1 := CU_n hSM hCU.1 q1_1 q2_1
  have hcv_1 := hcu_1
  obtain ⟨u1_1, u2_1, u3_1⟩ := hcv_1
  refine lv_iconst (v := 0) hx hb dX11_seenClause_4 (by decide) ?_
  refine lv_istore_n (lv' := [(1, .int 0), (0, .ref mm)]) hx hb dX11_seenClause_5 rfl hl (by decide) rfl (fun ls hl => ?_)
  have loop6 : ∀ (ddloop6 : Nat) (n : Int32) (a5 : Int32) (a6 : Int32) (a7 : Int32) (a8 : Int32) (q11 : (Nat → Int32)) (H : Heap) (locs : List Loc) (ls : Array Slot), (2 * (x2.toInt - a5.toInt) + (if a7.toInt = 0 then 0 else 1)).toNat < ddloop6 → (0 ≤ n.toInt ∧ n.toInt ≤ 7) → (x5.toInt ≤ a5.toInt ∧ a5.toInt ≤ x2.toInt) → (TokOK a7 a8) → (MK q11) → (CU P ks vs (i + 1 + n.toInt.toNat) a5 a7 a8) → (∀ k9 : Nat, 1 ≤ k9 → (k9 : Int) ≤ n.toInt → Mrk (ks (i + k9))) → va_P D vwCl (mX mm q jn cI x0 x1 x2 x3 x4 a5 a6 a7 a8 x9 x10 x11 x12 x13 x14 x15 x16 x17 x18 x19 x20 f0 f1 f2 f3 f4 f5 f6 f7 f8 f9 f10 q11 f12 f13 f14 f15 f16 f17 f18 f19 f20 f21 f22 f23 f24) H → va_D A (mX mm q jn cI x0 x1 x2 x3 x4 a5 a6 a7 a8 x9 x10 x11 x12 x13 x14 x15 x16 x17 x18 x19 x20 f0 f1 f2 f3 f4 f5 f6 f7 f8 f9 f10 q11 f12 f13 f14 f15 f16 f17 f18 f19 f20 f21 f22 f23 f24) → va_S A s.heap H locs → lv_has ls 3 [(0, .ref mm), (1, .int n)] → W p l e ({ frames := 4, cells := 0, slots := 0, locals := 88 }) s m args below meth c H locs 0 0 Q (F0 m 6 ls []) := by
    intro ddloop6
    induction ddloop6 with
    | zero =>
      intro n a5 a6 a7 a8 q11 H locs ls hdd
      exact absurd hdd (Nat.not_lt_zero _)
    | succ ddloop6 ih6 =>
      intro n a5 a6 a7 a8 q11 H locs ls hdd hn hp hT hM hcn hmk hP hD hS hl
      have hcn0 := hcn
      obtain ⟨u1_h, u2_h, u3_h⟩ := hcn0
      refine lv_aload_n hx hb dX11_seenClause_6 rfl (lv_at hl 0 rfl) ?_
      refine va_get (D := D) (ci := 11) (v := .int a7) (C := RX11) (T := TX11) (N := 47) hx hb hts (by decide +kernel) hown hK.1 hP 0 rfl rfl 11 (by decide) (hts (.fieldLink RX11 131 "JugglingHallModel" "token" "I") (by decide +kernel)) (fun _ h9 => h9) rfl dX11_seenClause_7 ?_
      refine lv_iconst (v := 1) hx hb dX11_seenClause_10 (by decide) ?_
      refine a_icmp_eq (u := a7.toInt) (v := 1) (tgt := 23) hx hb dX11_seenClause_11 (by decide) (rfl) (by decide) (fun c_2 => ?_) (fun c_2 => ?_)
      · refine lv_iload_n hx hb dX11_seenClause_23 rfl (lv_at hl 1 rfl) ?_
        refine lv_bipush (v := 7) hx hb dX11_seenClause_24 (by decide) ?_
        refine a_icmp_ne (u := n.toInt) (v := 7) (tgt := 39) hx hb dX11_seenClause_26 (by decide) (rfl) (by decide) (fun c_3 => ?_) (fun c_3 => ?_)
        · obtain ⟨z_4, q_4, e_4⟩ := i_inc (a := n.toInt) (1) (rfl) (by decide) (by omega) (by omega)
          refine lv_iinc (v := z_4) (lv' := [(1, .int z_4), (0, .ref mm)]) hx hb dX11_seenClause_39 hl (k := 1) rfl q_4 (by decide) rfl (fun ls hl => ?_)
          refine lv_aload_n hx hb dX11_seenClause_42 rfl (lv_at hl 1 rfl) ?_
          refine va_get (D := D) (ci := 11) (v := .ref (q 11)) (C := RX11) (T := TX11) (N := 47) hx hb hts (by decide +kernel) hown hK.1 hP 0 rfl rfl 27 (by decide) (hts (.fieldLink RX11 51 "JugglingHallModel" "marksNow" "[I") (by decide +kernel)) (fun _ h9 => h9) rfl dX11_seenClause_43 ?_
          refine lv_iload_n hx hb dX11_seenClause_46 rfl (lv_at hl 0 rfl) ?_
          refine lv_aload_n hx hb dX11_seenClause_47 rfl (lv_at hl 1 rfl) ?_
          refine va_get (D := D) (ci := 11) (v := .int a7) (C := RX11) (T := TX11) (N := 47) hx hb hts (by decide +kernel) hown hK.1 hP 0 rfl rfl 11 (by decide) (hts (.fieldLink RX11 131 "JugglingHallModel" "token" "I") (by decide +kernel)) (fun _ h9 => h9) rfl dX11_seenClause_48 ?_
          refine lv_bipush (v := 63) hx hb dX11_seenClause_51 (by decide) ?_
          refine a_icmp_ne (u := a7.toInt) (v := 63) (tgt := 61) hx hb dX11_seenClause_53 (by decide) (rfl) (by decide) (fun c_5 => ?_) (fun c_5 => ?_)
          · refine lv_aload_n hx hb dX11_seenClause_61 rfl (lv_at hl 1 rfl) ?_
            refine va_get (D := D) (ci := 11) (v := .int a8) (C := RX11) (T := TX11) (N := 47) hx hb hts (by decide +kernel) hown hK.1 hP 0 rfl rfl 12 (by decide) (hts (.fieldLink RX11 138 "JugglingHallModel" "value" "I") (by decide +kernel)) (fun _ h9 => h9) rfl dX11_seenClause_62 ?_
            refine ma_11 (u := (n.toInt + 1)) hx hb hK hP hD hS dX11_seenClause_65 (e_4) (by omega) (fun g_6 H locs eg_6 hP hD hS => ?_)
            refine lv_aload_n hx hb dX11_seenClause_66 rfl (lv_at hl 1 rfl) ?_
            refine call_g (wr := []) (va_runV (As := []) (rest := []) ⟨hx, hb, hml, hown, hts⟩ (k_next2 l D cI cR cM _  (by first | assumption | omega) (by first | assumption | omega)) (cwV 0 hts gX11_seenClause_X11_nextToken rfl rfl rfl (by decide +kernel) ⟨Nat.le_of_ble_eq_true rfl, Nat.le_of_ble_eq_true rfl⟩) (pre_V hK hP hD 0 11 rfl rfl) rfl rfl hl.1 rfl (lv_room (Nat.le_of_ble_eq_true rfl)) dX11_seenClause_67 ⟨Nat.le_of_ble_eq_true rfl, Nat.le_of_ble_eq_true rfl⟩) hP hD hS hA [0, 1, 2, 3, 4, 5, 6, 7, 8, 9, 10, 11, 12, 13, 14, 15, 16, 17, 18, 19, 20, 21, 22, 23, 24, 25] [] (by with_unfolding_all rfl) rfl (by decide) (by decide) (fun u_7 H locs hw hP hD hS => ?_)
            obtain ⟨y5_7, y6_7, y7_7, y8_7⟩ := u_7
            have hP : va_P D vwCl (mX mm q jn cI x0 x1 x2 x3 x4 y5_7 y6_7 y7_7 y8_7 x9 x10 x11 x12 x13 x14 x15 x16 x17 x18 x19 x20 f0 f1 f2 f3 f4 f5 f6 f7 f8 f9 f10 g_6 f12 f13 f14 f15 f16 f17 f18 f19 f20 f21 f22 f23 f24) H := hP
            have hD : va_D A (mX mm q jn cI x0 x1 x2 x3 x4 y5_7 y6_7 y7_7 y8_7 x9 x10 x11 x12 x13 x14 x15 x16 x17 x18 x19 x20 f0 f1 f2 f3 f4 f5 f6 f7 f8 f9 f10 g_6 f12 f13 f14 f15 f16 f17 f18 f19 f20 f21 f22 f23 f24) := hD
            obtain ⟨ha_7, hp_7, hk_7, hT_7, hR_7⟩ : (a5.toInt ≤ y5_7.toInt ∧ y5_7.toInt ≤ x2.toInt) ∧ (0 ≤ y6_7.toInt ∧ y6_7.toInt ≤ 300) ∧ (y7_7.toInt = 0 ∨ a5.toInt < y5_7.toInt) ∧ (TokOK y7_7 y8_7) ∧ (∃ v9 : Int, TkR (sE f2 x2.toInt) a5.toInt y7_7.toInt v9 y6_7.toInt y5_7.toInt ∧ (y7_7.toInt = 1 ∨ y7_7.toInt = 2 → y8_7.toInt = v9)) := hw
            obtain ⟨v9_7, q1_7, q2_7⟩ := hR_7
            have hcu_7 : CU P ks vs (i + 1 + n.toInt.toNat + 1) y5_7 y7_7 y8_7 := CU_n hSM hcn.1 q1_7 q2_7
            have hcv_7 := hcu_7
            obtain ⟨u1_7, u2_7, u3_7⟩ := hcv_7
            refine lv_goto (tgt := 6) hx hb dX11_seenClause_70 (by decide) ?_
            exact ih6 z_4 y5_7 y6_7 y7_7 y8_7 g_6 _ _ _ (by omega) (by first | assumption | omega) (by first | assumption | omega) (by first | assumption | omega) (fun i i1 i2 => by
              by_cases q : i = (n.toInt + 1)
              · rw [eg_6, q, pk_us]
                first
                  | decide
                  | (have h9 := hT.2.1 (by omega); omega)
              · rw [eg_6, un_i (by omega) (by omega) (by omega)]; exact hM i i1 i2) (by rw [show i + 1 + z_4.toInt.toNat = i + 1 + n.toInt.toNat + 1 by omega]; exact hcu_7) (fun k9 h8 h9 => by
              by_cases q9 : (k9 : Int) ≤ n.toInt
              · exact hmk k9 h8 q9
              · rw [show i + k9 = i + 1 + n.toInt.toNat by omega]; unfold Mrk; omega) hP hD hS (lv_sub hl [1, 0] rfl)
          · refine lv_bipush (v := 10) hx hb dX11_seenClause_56 (by decide) ?_
            refine lv_goto (tgt := 65) hx hb dX11_seenClause_58 (by decide) ?_
            refine ma_11 (u := (n.toInt + 1)) hx hb hK hP hD hS dX11_seenClause_65 (e_4) (by omega) (fun g_8 H locs eg_8 hP hD hS => ?_)
            refine lv_aload_n hx hb dX11_seenClause_66 rfl (lv_at hl 1 rfl) ?_
            refine call_g (wr := []) (va_runV (As := []) (rest := []) ⟨hx, hb, hml, hown, hts⟩ (k_next2 l D cI cR cM _  (by first | assumption | omega) (by first | assumption | omega)) (cwV 0 hts gX11_seenClause_X11_nextToken rfl rfl rfl (by decide +kernel) ⟨Nat.le_of_ble_eq_true rfl, Nat.le_of_ble_eq_true rfl⟩) (pre_V hK hP hD 0 11 rfl rfl) rfl rfl hl.1 rfl (lv_room (Nat.le_of_ble_eq_true rfl)) dX11_seenClause_67 ⟨Nat.le_of_ble_eq_true rfl, Nat.le_of_ble_eq_true rfl⟩) hP hD hS hA [0, 1, 2, 3, 4, 5, 6, 7, 8, 9, 10, 11, 12, 13, 14, 15, 16, 17, 18, 19, 20, 21, 22, 23, 24, 25] [] (by with_unfolding_all rfl) rfl (by decide) (by decide) (fun u_9 H locs hw hP hD hS => ?_)
            obtain ⟨y5_9, y6_9, y7_9, y8_9⟩ := u_9
            have hP : va_P D vwCl (mX mm q jn cI x0 x1 x2 x3 x4 y5_9 y6_9 y7_9 y8_9 x9 x10 x11 x12 x13 x14 x15 x16 x17 x18 x19 x20 f0 f1 f2 f3 f4 f5 f6 f7 f8 f9 f10 g_8 f12 f13 f14 f15 f16 f17 f18 f19 f20 f21 f22 f23 f24) H := hP
            have hD : va_D A (mX mm q jn cI x0 x1 x2 x3 x4 y5_9 y6_9 y7_9 y8_9 x9 x10 x11 x12 x13 x14 x15 x16 x17 x18 x19 x20 f0 f1 f2 f3 f4 f5 f6 f7 f8 f9 f10 g_8 f12 f13 f14 f15 f16 f17 f18 f19 f20 f21 f22 f23 f24) := hD
            obtain ⟨ha_9, hp_9, hk_9, hT_9, hR_9⟩ : (a5.toInt ≤ y5_9.toInt ∧ y5_9.toInt ≤ x2.toInt) ∧ (0 ≤ y6_9.toInt ∧ y6_9.toInt ≤ 300) ∧ (y7_9.toInt = 0 ∨ a5.toInt < y5_9.toInt) ∧ (TokOK y7_9 y8_9) ∧ (∃ v9 : Int, TkR (sE f2 x2.toInt) a5.toInt y7_9.toInt v9 y6_9.toInt y5_9.toInt ∧ (y7_9.toInt = 1 ∨ y7_9.toInt = 2 → y8_9.toInt = v9)) := hw
            obtain ⟨v9_9, q1_9, q2_9⟩ := hR_9
            have hcu_9 : CU P ks vs (i + 1 + n.toInt.toNat + 1) y5_9 y7_9 y8_9 := CU_n hSM hcn.1 q1_9 q2_9
            have hcv_9 := hcu_9
            obtain ⟨u1_9, u2_9, u3_9⟩ := hcv_9
            refine lv_goto (tgt := 6) hx hb dX11_seenClause_70 (by decide) ?_
            exact ih6 z_4 y5_9 y6_9 y7_9 y8_9 g_8 _ _ _ (by omega) (by first | assumption | omega) (by first | assumption | omega) (by first | assumption | omega) (fun i i1 i2 => by
              by_cases q : i = (n.toInt + 1)
              · rw [eg_8, q, pk_us]
                first
                  | decide
                  | (have h9 := hT.2.1 (by omega); omega)
              · rw [eg_8, un_i (by omega) (by omega) (by omega)]; exact hM i i1 i2) (by rw [show i + 1 + z_4.toInt.toNat = i + 1 + n.toInt.toNat + 1 by omega]; exact hcu_9) (fun k9 h8 h9 => by
              by_cases q9 : (k9 : Int) ≤ n.toInt
              · exact hmk k9 h8 q9
              · rw [show i + k9 = i + 1 + n.toInt.toNat by omega]; unfold Mrk; omega) hP hD hS (lv_sub hl [1, 0] rfl)
        · refine lv_aload_n hx hb dX11_seenClause_29 rfl (lv_at hl 0 rfl) ?_
          refine lv_iconst (v := 4) hx hb dX11_seenClause_30 (by decide) ?_
          refine lv_aload_n hx hb dX11_seenClause_31 rfl (lv_at hl 0 rfl) ?_
          refine va_get (D := D) (ci := 11) (v := .int a6) (C := RX11) (T := TX11) (N := 47) hx hb hts (by decide +kernel) hown hK.1 hP 0 rfl rfl 10 (by decide) (hts (.fieldLink RX11 120 "JugglingHallModel" "place" "I") (by decide +kernel)) (fun _ h9 => h9) rfl dX11_seenClause_32 ?_
          have hz_10 : (4 : Int32).toInt = 4 := by decide
          refine call_g (wr := []) (va_runV (As := [.int 4, .int a6]) (rest := []) ⟨hx, hb, hml, hown, hts⟩ (k_fails l D cI cR cM _  ) (cwV 2 hts gX11_seenClause_X11_fails rfl rfl rfl (by decide +kernel) ⟨Nat.le_of_ble_eq_true rfl, Nat.le_of_ble_eq_true rfl⟩) (pre_V hK hP hD 0 11 rfl rfl) rfl rfl hl.1 rfl (lv_room (Nat.le_of_ble_eq_true rfl)) dX11_seenClause_35 ⟨Nat.le_of_ble_eq_true rfl, Nat.le_of_ble_eq_true rfl⟩) hP hD hS hA [0, 1, 2, 3, 4, 5, 6, 7, 8, 9, 10, 11, 12, 13, 14, 15, 16, 17, 18, 19, 20, 21, 22, 23, 24, 25] [] (by with_unfolding_all rfl) rfl (by decide) (by decide) (fun u_11 H locs hw hP hD hS => ?_)
          obtain ⟨r_11, y9_11⟩ := u_11
          have hP : va_P D vwCl (mX mm q jn cI x0 x1 x2 x3 x4 a5 a6 a7 a8 y9_11 x10 x11 x12 x13 x14 x15 x16 x17 x18 x19 x20 f0 f1 f2 f3 f4 f5 f6 f7 f8 f9 f10 q11 f12 f13 f14 f15 f16 f17 f18 f19 f20 f21 f22 f23 f24) H := hP
          have hD : va_D A (mX mm q jn cI x0 x1 x2 x3 x4 a5 a6 a7 a8 y9_11 x10 x11 x12 x13 x14 x15 x16 x17 x18 x19 x20 f0 f1 f2 f3 f4 f5 f6 f7 f8 f9 f10 q11 f12 f13 f14 f15 f16 f17 f18 f19 f20 f21 f22 f23 f24) := hD
          have hr_11 : (r_11.toInt = (4 : Int32).toInt) := hw
          exact g_iret (r_11, a5, a6, a7, a8, y9_11, f10, q11) hx hb hr hlocks hS rfl (⟨show x5.toInt ≤ a5.toInt ∧ a5.toInt ≤ x2.toInt from (by first | assumption | omega), show TokOK a7 a8 from (by first | assumption | omega), show MK q11 from (hM), show FM f10 from (hFm), show Hd ((r_11.toInt = 0 ∧ ClR P ks vs i E F f0 f8 f9 x0.toInt a5 a7 a8) ∨ (r_11.toInt ≠ 0 ∧ TFls ks vs (i, E, F))) from (Or.inr ⟨by omega, TF_6b hk6 (fun k9 h8 h9 => by
            by_cases q9 : k9 ≤ 7
            · exact hmk k9 h8 (by omega)
            · rw [show i + k9 = i + 1 + n.toInt.toNat by omega]; unfold Mrk; omega)⟩)⟩) hP hD hQ (Nat.le_of_ble_eq_true rfl) (Nat.le_of_ble_eq_true rfl) dX11_seenClause_38
      · refine lv_aload_n hx hb dX11_seenClause_14 rfl (lv_at hl 0 rfl) ?_
        refine va_get (D := D) (ci := 11) (v := .int a7) (C := RX11) (T := TX11) (N := 47) hx hb hts (by decide +kernel) hown hK.1 hP 0 rfl rfl 11 (by decide) (hts (.fieldLink RX11 131 "JugglingHallModel" "token" "I") (by decide +kernel)) (fun _ h9 => h9) rfl dX11_seenClause_15 ?_
        refine lv_bipush (v := 63) hx hb dX11_seenClause_18 (by decide) ?_
        refine a_icmp_ne (u := a7.toInt) (v := 63) (tgt := 73) hx hb dX11_seenClause_20 (by decide) (rfl) (by decide) (fun c_12 => ?_) (fun c_12 => ?_)
        · refine lv_iload_n hx hb dX11_seenClause_73 rfl (lv_at hl 1 rfl) ?_
          refine a_if_eq (u := n.toInt) (tgt := 86) hx hb dX11_seenClause_74 (by decide) (rfl) (fun c_13 => ?_) (fun c_13 => ?_)
          · refine lv_aload_n hx hb dX11_seenClause_86 rfl (lv_at hl 0 rfl) ?_
            refine lv_iconst (v := 1) hx hb dX11_seenClause_87 (by decide) ?_
            refine lv_aload_n hx hb dX11_seenClause_88 rfl (lv_at hl 0 rfl) ?_
            refine va_get (D := D) (ci := 11) (v := .int a6) (C := RX11) (T := TX11) (N := 47) hx hb hts (by decide +kernel) hown hK.1 hP 0 rfl rfl 10 (by decide) (hts (.fieldLink RX11 120 "JugglingHallModel" "place" "I") (by decide +kernel)) (fun _ h9 => h9) rfl dX11_seenClause_89 ?_
            have hz_14 : (1 : Int32).toInt = 1 := by decide
            refine call_g (wr := []) (va_runV (As := [.int 1, .int a6]) (rest := []) ⟨hx, hb, hml, hown, hts⟩ (k_fails l D cI cR cM _  ) (cwV 2 hts gX11_seenClause_X11_fails rfl rfl rfl (by decide +kernel) ⟨Nat.le_of_ble_eq_true rfl, Nat.le_of_ble_eq_true rfl⟩) (pre_V hK hP hD 0 11 rfl rfl) rfl rfl hl.1 rfl (lv_room (Nat.le_of_ble_eq_true rfl)) dX11_seenClause_92 ⟨Nat.le_of_ble_eq_true rfl, Nat.le_of_ble_eq_true rfl⟩) hP hD hS hA [0, 1, 2, 3, 4, 5, 6, 7, 8, 9, 10, 11, 12, 13, 14, 15, 16, 17, 18, 19, 20, 21, 22, 23, 24, 25] [] (by with_unfolding_all rfl) rfl (by decide) (by decide) (fun u_15 H locs hw hP hD hS => ?_)
            obtain ⟨r_15, y9_15⟩ := u_15
            have hP : va_P D vwCl (mX mm q jn cI x0 x1 x2 x3 x4 a5 a6 a7 a8 y9_15 x10 x11 x12 x13 x14 x15 x16 x17 x18 x19 x20 f0 f1 f2 f3 f4 f5 f6 f7 f8 f9 f10 q11 f12 f13 f14 f15 f16 f17 f18 f19 f20 f21 f22 f23 f24) H := hP
            have hD : va_D A (mX mm q jn cI x0 x1 x2 x3 x4 a5 a6 a7 a8 y9_15 x10 x11 x12 x13 x14 x15 x16 x17 x18 x19 x20 f0 f1 f2 f3 f4 f5 f6 f7 f8 f9 f10 q11 f12 f13 f14 f15 f16 f17 f18 f19 f20 f21 f22 f23 f24) := hD
            have hr_15 : (r_15.toInt = (1 : Int32).toInt) := hw
            exact g_iret (r_15, a5, a6, a7, a8, y9_15, f10, q11) hx hb hr hlocks hS rfl (⟨show x5.toInt ≤ a5.toInt ∧ a5.toInt ≤ x2.toInt from (by first | assumption | omega), show TokOK a7 a8 from (by first | assumption | omega), show MK q11 from (hM), show FM f10 from (hFm), show Hd ((r_15.toInt = 0 ∧ ClR P ks vs i E F f0 f8 f9 x0.toInt a5 a7 a8) ∨ (r_15.toInt ≠ 0 ∧ TFls ks vs (i, E, F))) from (Or.inr ⟨by omega, TF_6a (n := n.toInt.toNat) hk6 (fun k9 h8 h9 => hmk k9 h8 (by omega)) (by rw [show i + n.toInt.toNat + 1 = i + 1 + n.toInt.toNat by omega]; unfold Mrk; omega) (by rw [show i + n.toInt.toNat + 1 = i + 1 + n.toInt.toNat by omega]; omega)⟩)⟩) hP hD hQ (Nat.le_of_ble_eq_true rfl) (Nat.le_of_ble_eq_true rfl) dX11_seenClause_95
          · refine lv_aload_n hx hb dX11_seenClause_77 rfl (lv_at hl 0 rfl) ?_
            refine va_get (D := D) (ci := 11) (v := .int a7) (C := RX11) (T := TX11) (N := 47) hx hb hts (by decide +kernel) hown hK.1 hP 0 rfl rfl 11 (by decide) (hts (.fieldLink RX11 131 "JugglingHallModel" "token" "I") (by decide +kernel)) (fun _ h9 => h9) rfl dX11_seenClause_78 ?_
            refine lv_bipush (v := 59) hx hb dX11_seenClause_81 (by decide) ?_
            refine a_icmp_eq (u := a7.toInt) (v := 59) (tgt := 96) hx hb dX11_seenClause_83 (by decide) (rfl) (by decide) (fun c_16 => ?_) (fun c_16 => ?_)
            · refine lv_aload_n hx hb dX11_seenClause_96 rfl (lv_at hl 0 rfl) ?_
              refine va_get (D := D) (ci := 11) (v := .ref (q 11)) (C := RX11) (T := TX11) (N := 47) hx hb hts (by decide +kernel) hown hK.1 hP 0 rfl rfl 27 (by decide) (hts (.fieldLink RX11 51 "JugglingHallModel" "marksNow" "[I") (by decide +kernel)) (fun _ h9 => h9) rfl dX11_seenClause_97 ?_
              refine lv_iconst (v := 0) hx hb dX11_seenClause_100 (by decide) ?_
              refine lv_iload_n hx hb dX11_seenClause_101 rfl (lv_at hl 1 rfl) ?_
              refine ma_11 (u := 0) hx hb hK hP hD hS dX11_seenClause_102 (by decide) (by omega) (fun g_17 H locs eg_17 hP hD hS => ?_)
              have hM9 : MK g_17 := fun i i1 i2 => by rw [eg_17, un_i (by omega) (by omega) (by omega)]; exact hM i i1 i2
              have hN9 : (g_17 (0 : Int).toNat).toInt = n.toInt := by rw [eg_17, pk_us]
              refine lv_iconst (v := 0) hx hb dX11_seenClause_103 (by decide) ?_
              refine lv_istore_n (lv' := [(2, .int 0), (0, .ref mm), (1, .int n)]) hx hb dX11_seenClause_104 rfl hl (by decide) rfl (fun ls hl => ?_)
              have loop105 : ∀ (ddloop105 : Nat) (k : Int32) (ga : (Nat → Int32)) (H : Heap) (locs : List Loc) (ls : Array Slot), (n.toInt + 1 - k.toInt).toNat < ddloop105 → (0 ≤ k.toInt ∧ k.toInt ≤ n.toInt + 1) → (FM ga) → va_P D vwCl (mX mm q jn cI x0 x1 x2 x3 x4 a5 a6 a7 a8 x9 x10 x11 x12 x13 x14 x15 x16 x17 x18 x19 x20 f0 f1 f2 f3 f4 f5 f6 f7 f8 f9 ga g_17 f12 f13 f14 f15 f16 f17 f18 f19 f20 f21 f22 f23 f24) H → va_D A (mX mm q jn cI x0 x1 x2 x3 x4 a5 a6 a7 a8 x9 x10 x11 x12 x13 x14 x15 x16 x17 x18 x19 x20 f0 f1 f2 f3 f4 f5 f6 f7 f8 f9 ga g_17 f12 f13 f14 f15 f16 f17 f18 f19 f20 f21 f22 f23 f24) → va_S A s.heap H locs → lv_has ls 3 [(0, .ref mm), (1, .int n), (2, .int k)] → W p l e ({ frames := 4, cells := 0, slots := 0, locals := 88 }) s m args below meth c H locs 0 0 Q (F0 m 105 ls []) := by
                intro ddloop105
                induction ddloop105 with
                | zero =>
                  intro k ga H locs ls hdd
                  exact absurd hdd (Nat.not_lt_zero _)
                | succ ddloop105 ih105 =>
                  intro k ga H locs ls hdd hk hFm9 hP hD hS hl
                  refine lv_iload_n hx hb dX11_seenClause_105 rfl (lv_at hl 2 rfl) ?_
                  refine lv_iload_n hx hb dX11_seenClause_106 rfl (lv_at hl 1 rfl) ?_
                  refine a_icmp_gt (u := k.toInt) (v := n.toInt) (tgt := 128) hx hb dX11_seenClause_107 (by decide) (rfl) (rfl) (fun c_18 => ?_) (fun c_18 => ?_)
                  · refine lv_iconst (v := 0) hx hb dX11_seenClause_128 (by decide) ?_
                    have hz_19 : (0 : Int32).toInt = 0 := by decide
                    exact g_iret ((0 : Int32), a5, a6, a7, a8, x9, ga, g_17) hx hb hr hlocks hS rfl (⟨show x5.toInt ≤ a5.toInt ∧ a5.toInt ≤ x2.toInt from (by first | assumption | omega), show TokOK a7 a8 from (by first | assumption | omega), show MK g_17 from (hM9), show FM ga from (hFm9), show Hd (((0 : Int32).toInt = 0 ∧ ClR P ks vs i E F f0 f8 f9 x0.toInt a5 a7 a8) ∨ ((0 : Int32).toInt ≠ 0 ∧ TFls ks vs (i, E, F))) from (Or.inl ⟨by omega, clr_seen (n := n.toInt.toNat) hk6 (by omega) (fun k9 h8 h9 => hmk k9 h8 (by omega)) hcn (by omega) hE hEO hTF⟩)⟩) hP hD hQ (Nat.le_of_ble_eq_true rfl) (Nat.le_of_ble_eq_true rfl) dX11_seenClause_129
                  · refine lv_aload_n hx hb dX11_seenClause_110 rfl (lv_at hl 0 rfl) ?_
                    refine va_get (D := D) (ci := 11) (v := .ref (q 10)) (C := RX11) (T := TX11) (N := 47) hx hb hts (by decide +kernel) hown hK.1 hP 0 rfl rfl 24 (by decide) (hts (.fieldLink RX11 48 "JugglingHallModel" "freshMarks" "[I") (by decide +kernel)) (fun _ h9 => h9) rfl dX11_seenClause_111 ?_
                    refine lv_iload_n hx hb dX11_seenClause_114 rfl (lv_at hl 2 rfl) ?_
                    refine lv_aload_n hx hb dX11_seenClause_115 rfl (lv_at hl 0 rfl) ?_
                    refine va_get (D := D) (ci := 11) (v := .ref (q 11)) (C := RX11) (T := TX11) (N := 47) hx hb hts (by decide +kernel) hown hK.1 hP 0 rfl rfl 27 (by decide) (hts (.fieldLink RX11 51 "JugglingHallModel" "marksNow" "[I") (by decide +kernel)) (fun _ h9 => h9) rfl dX11_seenClause_116 ?_
                    refine lv_iload_n hx hb dX11_seenClause_119 rfl (lv_at hl 2 rfl) ?_
                    refine a_iald (f := g_17) (u := k.toInt) hx hb hK.1 hP 12 0 rfl rfl dX11_seenClause_120 (rfl) (by omega) (fun z_20 q_20 e_20 => ?_)
                    refine ma_10 (u := k.toInt) hx hb hK hP hD hS dX11_seenClause_121 (rfl) (by omega) (fun g_21 H locs eg_21 hP hD hS => ?_)
                    obtain ⟨z_22, q_22, e_22⟩ := i_inc (a := k.toInt) (1) (rfl) (by decide) (by omega) (by omega)
                    refine lv_iinc (v := z_22) (lv' := [(2, .int z_22), (0, .ref mm), (1, .int n)]) hx hb dX11_seenClause_122 hl (k := 2) rfl q_22 (by decide) rfl (fun ls hl => ?_)
                    refine lv_goto (tgt := 105) hx hb dX11_seenClause_125 (by decide) ?_
                    exact ih105 z_22 g_21 _ _ _ (by omega) (by first | assumption | omega) (fm_set (x := k.toInt) hFm9 (fun i i0 i1 => by rw [eg_21, un_i i0 (by omega) (by omega)]) (fun e => by rw [eg_21, pk_us, q_20, show k.toInt = 0 by omega]; omega) (fun e => by rw [eg_21, pk_us, q_20]; exact hM9 _ (by omega) (by omega))) hP hD hS (lv_sub hl [1, 2, 0] rfl)
              have hz_23 : (0 : Int32).toInt = 0 := by decide
              exact loop105 ((n.toInt + 1 - (0 : Int32).toInt).toNat + 1) (0 : Int32) f10 _ _ _ (by omega) (by first | assumption | omega) (hFm) hP hD hS (lv_sub hl [1, 2, 0] rfl)
            · refine lv_aload_n hx hb dX11_seenClause_86 rfl (lv_at hl 0 rfl) ?_
              refine lv_iconst (v := 1) hx hb dX11_seenClause_87 (by decide) ?_
              refine lv_aload_n hx hb dX11_seenClause_88 rfl (lv_at hl 0 rfl) ?_
              refine va_get (D := D) (ci := 11) (v := .int a6) (C := RX11) (T := TX11) (N := 47) hx hb hts (by decide +kernel) hown hK.1 hP 0 rfl rfl 10 (by decide) (hts (.fieldLink RX11 120 "JugglingHallModel" "place" "I") (by decide +kernel)) (fun _ h9 => h9) rfl dX11_seenClause_89 ?_
              have hz_24 : (1 : Int32).toInt = 1 := by decide
              refine call_g (wr := []) (va_runV (As := [.int 1, .int a6]) (rest := []) ⟨hx, hb, hml, hown, hts⟩ (k_fails l D cI cR cM _  ) (cwV 2 hts gX11_seenClause_X11_fails rfl rfl rfl (by decide +kernel) ⟨Nat.le_of_ble_eq_true rfl, Nat.le_of_ble_eq_true rfl⟩) (pre_V hK hP hD 0 11 rfl rfl) rfl rfl hl.1 rfl (lv_room (Nat.le_of_ble_eq_true rfl)) dX11_seenClause_92 ⟨Nat.le_of_ble_eq_true rfl, Nat.le_of_ble_eq_true rfl⟩) hP hD hS hA [0, 1, 2, 3, 4, 5, 6, 7, 8, 9, 10, 11, 12, 13, 14, 15, 16, 17, 18, 19, 20, 21, 22, 23, 24, 25] [] (by with_unfolding_all rfl) rfl (by decide) (by decide) (fun u_25 H locs hw hP hD hS => ?_)
              obtain ⟨r_25, y9_25⟩ := u_25
              have hP : va_P D vwCl (mX mm q jn cI x0 x1 x2 x3 x4 a5 a6 a7 a8 y9_25 x10 x11 x12 x13 x14 x15 x16 x17 x18 x19 x20 f0 f1 f2 f3 f4 f5 f6 f7 f8 f9 f10 q11 f12 f13 f14 f15 f16 f17 f18 f19 f20 f21 f22 f23 f24) H := hP
              have hD : va_D A (mX mm q jn cI x0 x1 x2 x3 x4 a5 a6 a7 a8 y9_25 x10 x11 x12 x13 x14 x15 x16 x17 x18 x19 x20 f0 f1 f2 f3 f4 f5 f6 f7 f8 f9 f10 q11 f12 f13 f14 f15 f16 f17 f18 f19 f20 f21 f22 f23 f24) := hD
              have hr_25 : (r_25.toInt = (1 : Int32).toInt) := hw
              exact g_iret (r_25, a5, a6, a7, a8, y9_25, f10, q11) hx hb hr hlocks hS rfl (⟨show x5.toInt ≤ a5.toInt ∧ a5.toInt ≤ x2.toInt from (by first | assumption | omega), show TokOK a7 a8 from (by first | assumption | omega), show MK q11 from (hM), show FM f10 from (hFm), show Hd ((r_25.toInt = 0 ∧ ClR P ks vs i E F f0 f8 f9 x0.toInt a5 a7 a8) ∨ (r_25.toInt ≠ 0 ∧ TFls ks vs (i, E, F))) from (Or.inr ⟨by omega, TF_6a (n := n.toInt.toNat) hk6 (fun k9 h8 h9 => hmk k9 h8 (by omega)) (by rw [show i + n.toInt.toNat + 1 = i + 1 + n.toInt.toNat by omega]; unfold Mrk; omega) (by rw [show i + n.toInt.toNat + 1 = i + 1 + n.toInt.toNat by omega]; omega)⟩)⟩) hP hD hQ (Nat.le_of_ble_eq_true rfl) (Nat.le_of_ble_eq_true rfl) dX11_seenClause_95
        · refine lv_iload_n hx hb dX11_seenClause_23 rfl (lv_at hl 1 rfl) ?_
          refine lv_bipush (v := 7) hx hb dX11_seenClause_24 (by decide) ?_
          refine a_icmp_ne (u := n.toInt) (v := 7) (tgt := 39) hx hb dX11_seenClause_26 (by decide) (rfl) (by decide) (fun c_26 => ?_) (fun c_26 => ?_)
          · obtain ⟨z_27, q_27, e_27⟩ := i_inc (a := n.toInt) (1) (rfl) (by decide) (by omega) (by omega)
            refine lv_iinc (v := z_27) (lv' := [(1, .int z_27), (0, .ref mm)]) hx hb dX11_seenClause_39 hl (k := 1) rfl q_27 (by decide) rfl (fun ls hl => ?_)
            refine lv_aload_n hx hb dX11_seenClause_42 rfl (lv_at hl 1 rfl) ?_
            refine va_get (D := D) (ci := 11) (v := .ref (q 11)) (C := RX11) (T := TX11) (N := 47) hx hb hts (by decide +kernel) hown hK.1 hP 0 rfl rfl 27 (by decide) (hts (.fieldLink RX11 51 "JugglingHallModel" "marksNow" "[I") (by decide +kernel)) (fun _ h9 => h9) rfl dX11_seenClause_43 ?_
            refine lv_iload_n hx hb dX11_seenClause_46 rfl (lv_at hl 0 rfl) ?_
            refine lv_aload_n hx hb dX11_seenClause_47 rfl (lv_at hl 1 rfl) ?_
            refine va_get (D := D) (ci := 11) (v := .int a7) (C := RX11) (T := TX11) (N := 47) hx hb hts (by decide +kernel) hown hK.1 hP 0 rfl rfl 11 (by decide) (hts (.fieldLink RX11 131 "JugglingHallModel" "token" "I") (by decide +kernel)) (fun _ h9 => h9) rfl dX11_seenClause_48 ?_
            refine lv_bipush (v := 63) hx hb dX11_seenClause_51 (by decide) ?_
            refine a_icmp_ne (u := a7.toInt) (v := 63) (tgt := 61) hx hb dX11_seenClause_53 (by decide) (rfl) (by decide) (fun c_28 => ?_) (fun c_28 => ?_)
            · refine lv_aload_n hx hb dX11_seenClause_61 rfl (lv_at hl 1 rfl) ?_
              refine va_get (D := D) (ci := 11) (v := .int a8) (C := RX11) (T := TX11) (N := 47) hx hb hts (by decide +kernel) hown hK.1 hP 0 rfl rfl 12 (by decide) (hts (.fieldLink RX11 138 "JugglingHallModel" "value" "I") (by decide +kernel)) (fun _ h9 => h9) rfl dX11_seenClause_62 ?_
              refine ma_11 (u := (n.toInt + 1)) hx hb hK hP hD hS dX11_seenClause_65 (e_27) (by omega) (fun g_29 H locs eg_29 hP hD hS => ?_)
              refine lv_aload_n hx hb dX11_seenClause_66 rfl (lv_at hl 1 rfl) ?_
              refine call_g (wr := []) (va_runV (As := []) (rest := []) ⟨hx, hb, hml, hown, hts⟩ (k_next2 l D cI cR cM _  (by first | assumption | omega) (by first | assumption | omega)) (cwV 0 hts gX11_seenClause_X11_nextToken rfl rfl rfl (by decide +kernel) ⟨Nat.le_of_ble_eq_true rfl, Nat.le_of_ble_eq_true rfl⟩) (pre_V hK hP hD 0 11 rfl rfl) rfl rfl hl.1 rfl (lv_room (Nat.le_of_ble_eq_true rfl)) dX11_seenClause_67 ⟨Nat.le_of_ble_eq_true rfl, Nat.le_of_ble_eq_true rfl⟩) hP hD hS hA [0, 1, 2, 3, 4, 5, 6, 7, 8, 9, 10, 11, 12, 13, 14, 15, 16, 17, 18, 19, 20, 21, 22, 23, 24, 25] [] (by with_unfolding_all rfl) rfl (by decide) (by decide) (fun u_30 H locs hw hP hD hS => ?_)
              obtain ⟨y5_30, y6_30, y7_30, y8_30⟩ := u_30
              have hP : va_P D vwCl (mX mm q jn cI x0 x1 x2 x3 x4 y5_30 y6_30 y7_30 y8_30 x9 x10 x11 x12 x13 x14 x15 x16 x17 x18 x19 x20 f0 f1 f2 f3 f4 f5 f6 f7 f8 f9 f10 g_29 f12 f13 f14 f15 f16 f17 f18 f19 f20 f21 f22 f23 f24) H := hP
              have hD : va_D A (mX mm q jn cI x0 x1 x2 x3 x4 y5_30 y6_30 y7_30 y8_30 x9 x10 x11 x12 x13 x14 x15 x16 x17 x18 x19 x20 f0 f1 f2 f3 f4 f5 f6 f7 f8 f9 f10 g_29 f12 f13 f14 f15 f16 f17 f18 f19 f20 f21 f22 f23 f24) := hD
              obtain ⟨ha_30, hp_30, hk_30, hT_30, hR_30⟩ : (a5.toInt ≤ y5_30.toInt ∧ y5_30.toInt ≤ x2.toInt) ∧ (0 ≤ y6_30.toInt ∧ y6_30.toInt ≤ 300) ∧ (y7_30.toInt = 0 ∨ a5.toInt < y5_30.toInt) ∧ (TokOK y7_30 y8_30) ∧ (∃ v9 : Int, TkR (sE f2 x2.toInt) a5.toInt y7_30.toInt v9 y6_30.toInt y5_30.toInt ∧ (y7_30.toInt = 1 ∨ y7_30.toInt = 2 → y8_30.toInt = v9)) := hw
              obtain ⟨v9_30, q1_30, q2_30⟩ := hR_30
              have hcu_30 : CU P ks vs (i + 1 + n.toInt.toNat + 1) y5_30 y7_30 y8_30 := CU_n hSM hcn.1 q1_30 q2_30
              have hcv_30 := hcu_30
              obtain ⟨u1_30, u2_30, u3_30⟩ := hcv_30
              refine lv_goto (tgt := 6) hx hb dX11_seenClause_70 (by decide) ?_
              exact ih6 z_27 y5_30 y6_30 y7_30 y8_30 g_29 _ _ _ (by omega) (by first | assumption | omega) (by first | assumption | omega) (by first | assumption | omega) (fun i i1 i2 => by
                by_cases q : i = (n.toInt + 1)
                · rw [eg_29, q, pk_us]
                  first
                    | decide
                    | (have h9 := hT.2.1 (by omega); omega)
                · rw [eg_29, un_i (by omega) (by omega) (by omega)]; exact hM i i1 i2) (by rw [show i + 1 + z_27.toInt.toNat = i + 1 + n.toInt.toNat + 1 by omega]; exact hcu_30) (fun k9 h8 h9 => by
                by_cases q9 : (k9 : Int) ≤ n.toInt
                · exact hmk k9 h8 q9
                · rw [show i + k9 = i + 1 + n.toInt.toNat by omega]; unfold Mrk; omega) hP hD hS (lv_sub hl [1, 0] rfl)
            · refine lv_bipush (v := 10) hx hb dX11_seenClause_56 (by decide) ?_
              refine lv_goto (tgt := 65) hx hb dX11_seenClause_58 (by decide) ?_
              refine ma_11 (u := (n.toInt + 1)) hx hb hK hP hD hS dX11_seenClause_65 (e_27) (by omega) (fun g_31 H locs eg_31 hP hD hS => ?_)
              refine lv_aload_n hx hb dX11_seenClause_66 rfl (lv_at hl 1 rfl) ?_
              refine call_g (wr := []) (va_runV (As := []) (rest := []) ⟨hx, hb, hml, hown, hts⟩ (k_next2 l D cI cR cM _  (by first | assumption | omega) (by first | assumption | omega)) (cwV 0 hts gX11_seenClause_X11_nextToken rfl rfl rfl (by decide +kernel) ⟨Nat.le_of_ble_eq_true rfl, Nat.le_of_ble_eq_true rfl⟩) (pre_V hK hP hD 0 11 rfl rfl) rfl rfl hl.1 rfl (lv_room (Nat.le_of_ble_eq_true rfl)) dX11_seenClause_67 ⟨Nat.le_of_ble_eq_true rfl, Nat.le_of_ble_eq_true rfl⟩) hP hD hS hA [0, 1, 2, 3, 4, 5, 6, 7, 8, 9, 10, 11, 12, 13, 14, 15, 16, 17, 18, 19, 20, 21, 22, 23, 24, 25] [] (by with_unfolding_all rfl) rfl (by decide) (by decide) (fun u_32 H locs hw hP hD hS => ?_)
              obtain ⟨y5_32, y6_32, y7_32, y8_32⟩ := u_32
              have hP : va_P D vwCl (mX mm q jn cI x0 x1 x2 x3 x4 y5_32 y6_32 y7_32 y8_32 x9 x10 x11 x12 x13 x14 x15 x16 x17 x18 x19 x20 f0 f1 f2 f3 f4 f5 f6 f7 f8 f9 f10 g_31 f12 f13 f14 f15 f16 f17 f18 f19 f20 f21 f22 f23 f24) H := hP
              have hD : va_D A (mX mm q jn cI x0 x1 x2 x3 x4 y5_32 y6_32 y7_32 y8_32 x9 x10 x11 x12 x13 x14 x15 x16 x17 x18 x19 x20 f0 f1 f2 f3 f4 f5 f6 f7 f8 f9 f10 g_31 f12 f13 f14 f15 f16 f17 f18 f19 f20 f21 f22 f23 f24) := hD
              obtain ⟨ha_32, hp_32, hk_32, hT_32, hR_32⟩ : (a5.toInt ≤ y5_32.toInt ∧ y5_32.toInt ≤ x2.toInt) ∧ (0 ≤ y6_32.toInt ∧ y6_32.toInt ≤ 300) ∧ (y7_32.toInt = 0 ∨ a5.toInt < y5_32.toInt) ∧ (TokOK y7_32 y8_32) ∧ (∃ v9 : Int, TkR (sE f2 x2.toInt) a5.toInt y7_32.toInt v9 y6_32.toInt y5_32.toInt ∧ (y7_32.toInt = 1 ∨ y7_32.toInt = 2 → y8_32.toInt = v9)) := hw
              obtain ⟨v9_32, q1_32, q2_32⟩ := hR_32
              have hcu_32 : CU P ks vs (i + 1 + n.toInt.toNat + 1) y5_32 y7_32 y8_32 := CU_n hSM hcn.1 q1_32 q2_32
              have hcv_32 := hcu_32
              obtain ⟨u1_32, u2_32, u3_32⟩ := hcv_32
              refine lv_goto (tgt := 6) hx hb dX11_seenClause_70 (by decide) ?_
              exact ih6 z_27 y5_32 y6_32 y7_32 y8_32 g_31 _ _ _ (by omega) (by first | assumption | omega) (by first | assumption | omega) (by first | assumption | omega) (fun i i1 i2 => by
                by_cases q : i = (n.toInt + 1)
                · rw [eg_31, q, pk_us]
                  first
                    | decide
                    | (have h9 := hT.2.1 (by omega); omega)
                · rw [eg_31, un_i (by omega) (by omega) (by omega)]; exact hM i i1 i2) (by rw [show i + 1 + z_27.toInt.toNat = i + 1 + n.toInt.toNat + 1 by omega]; exact hcu_32) (fun k9 h8 h9 => by
                by_cases q9 : (k9 : Int) ≤ n.toInt
                · exact hmk k9 h8 q9
                · rw [show i + k9 = i + 1 + n.toInt.toNat by omega]; unfold Mrk; omega) hP hD hS (lv_sub hl [1, 0] rfl)
          · refine lv_aload_n hx hb dX11_seenClause_29 rfl (lv_at hl 0 rfl) ?_
            refine lv_iconst (v := 4) hx hb dX11_seenClause_30 (by decide) ?_
            refine lv_aload_n hx hb dX11_seenClause_31 rfl (lv_at hl 0 rfl) ?_
            refine va_get (D := D) (ci := 11) (v := .int a6) (C := RX11) (T := TX11) (N := 47) hx hb hts (by decide +kernel) hown hK.1 hP 0 rfl rfl 10 (by decide) (hts (.fieldLink RX11 120 "JugglingHallModel" "place" "I") (by decide +kernel)) (fun _ h9 => h9) rfl dX11_seenClause_32 ?_
            have hz_33 : (4 : Int32).toInt = 4 := by decide
            refine call_g (wr := []) (va_runV (As := [.int 4, .int a6]) (rest := []) ⟨hx, hb, hml, hown, hts⟩ (k_fails l D cI cR cM _  ) (cwV 2 hts gX11_seenClause_X11_fails rfl rfl rfl (by decide +kernel) ⟨Nat.le_of_ble_eq_true rfl, Nat.le_of_ble_eq_true rfl⟩) (pre_V hK hP hD 0 11 rfl rfl) rfl rfl hl.1 rfl (lv_room (Nat.le_of_ble_eq_true rfl)) dX11_seenClause_35 ⟨Nat.le_of_ble_eq_true rfl, Nat.le_of_ble_eq_true rfl⟩) hP hD hS hA [0, 1, 2, 3, 4, 5, 6, 7, 8, 9, 10, 11, 12, 13, 14, 15, 16, 17, 18, 19, 20, 21, 22, 23, 24, 25] [] (by with_unfolding_all rfl) rfl (by decide) (by decide) (fun u_34 H locs hw hP hD hS => ?_)
            obtain ⟨r_34, y9_34⟩ := u_34
            have hP : va_P D vwCl (mX mm q jn cI x0 x1 x2 x3 x4 a5 a6 a7 a8 y9_34 x10 x11 x12 x13 x14 x15 x16 x17 x18 x19 x20 f0 f1 f2 f3 f4 f5 f6 f7 f8 f9 f10 q11 f12 f13 f14 f15 f16 f17 f18 f19 f20 f21 f22 f23 f24) H := hP
            have hD : va_D A (mX mm q jn cI x0 x1 x2 x3 x4 a5 a6 a7 a8 y9_34 x10 x11 x12 x13 x14 x15 x16 x17 x18 x19 x20 f0 f1 f2 f3 f4 f5 f6 f7 f8 f9 f10 q11 f12 f13 f14 f15 f16 f17 f18 f19 f20 f21 f22 f23 f24) := hD
            have hr_34 : (r_34.toInt = (4 : Int32).toInt) := hw
            exact g_iret (r_34, a5, a6, a7, a8, y9_34, f10, q11) hx hb hr hlocks hS rfl (⟨show x5.toInt ≤ a5.toInt ∧ a5.toInt ≤ x2.toInt from (by first | assumption | omega), show TokOK a7 a8 from (by first | assumption | omega), show MK q11 from (hM), show FM f10 from (hFm), show Hd ((r_34.toInt = 0 ∧ ClR P ks vs i E F f0 f8 f9 x0.toInt a5 a7 a8) ∨ (r_34.toInt ≠ 0 ∧ TFls ks vs (i, E, F))) from (Or.inr ⟨by omega, TF_6b hk6 (fun k9 h8 h9 => by
              by_cases q9 : k9 ≤ 7
              · exact hmk k9 h8 (by omega)
              · rw [show i + k9 = i + 1 + n.toInt.toNat by omega]; unfold Mrk; omega)⟩)⟩) hP hD hQ (Nat.le_of_ble_eq_true rfl) (Nat.le_of_ble_eq_true rfl) dX11_seenClause_38
  have hz_35 : (0 : Int32).toInt = 0 := by decide
  exact loop6 ((2 * (x2.toInt - y5_1.toInt) + (if y7_1.toInt = 0 then 0 else 1)).toNat + 1) (0 : Int32) y5_1 y6_1 y7_1 y8_1 f11 _ _ _ (by omega) (by first | assumption | omega) (by first | assumption | omega) (by first | assumption | omega) (hM) (by rw [show i + 1 + (0 : Int32).toInt.toNat = i + 1 from rfl]; exact hcu_1) (fun k9 h8 h9 => absurd h9 (by rw [show (0 : Int32).toInt = 0 from rfl]; omega)) hP hD hS (lv_sub hl [1, 0] rfl)
set_option maxRecDepth 100000 in
set_option maxHeartbeats 4000000 in
theorem k_rowClause3 (l : Launch) (D : va_G) (cI cR cM : ClassId) (sz : Nat) {jn mm : Nat} {q : Nat → Nat} {x0 x1 x2 x3 x4 x5 x6 x7 x8 x9 x10 x11 x12 x13 x14 x15 x16 x17 x18 x19 x20 : Int32} {f0 f1 f2 f3 f4 f5 f6 f7 f8 f9 f10 f11 f12 f13 f14 f15 f16 f17 f18 f19 f20 f21 f22 f23 f24 : Nat → Int32} {P ks vs : Nat → Int} {i : Nat} {E : Env1} {F : Int → Int} (ht : 0 ≤ x2.toInt ∧ x2.toInt ≤ 300) (h5 : 0 ≤ x5.toInt ∧ x5.toInt ≤ x2.toInt) (hT : TokOK x7 x8) (hj : 1 ≤ jn ∧ jn ≤ 3) (h0 : 0 ≤ x0.toInt ∧ x0.toInt ≤ 60) (hR : RowsX jn f0) (hFr : FreshX jn f8 f9) (hRZ : RowsZ jn f0) (hFZ : FreshZ jn f8 f9) (hj1 : jn = 1) (hSM : SM (sE f2 x2.toInt) P ks vs) (hCU : CU P ks vs i x5 x7 x8) (hk5 : ks i = 5) (hE : EnvF f0 f8 f9 x0.toInt E) (hEO : EOk E) (hTF : TF1 f8 F) : Met l yX11_rowClause wsX11_rowClause ({ frames := 8, cells := 0, slots := 0, locals := 180 }) (P0 D cI cR cM [.ref mm] sz (mX mm q jn cI x0 x1 x2 x3 x4 x5 x6 x7 x8 x9 x10 x11 x12 x13 x14 x15 x16 x17 x18 x19 x20 f0 f1 f2 f3 f4 f5 f6 f7 f8 f9 f10 f11 f12 f13 f14 f15 f16 f17 f18 f19 f20 f21 f22 f23 f24)) (QG (S := Int32 × Int32 × Int32 × Int32 × Int32 × Int32 × Int32 × Int32 × Int32 × Int32 × Int32 × (Nat → Int32) × (Nat → Int32) × (Nat → Int32) × (Nat → Int32) × (Nat → Int32) × (Nat → Int32) × (Nat → Int32)) (fun u => some (.int u.1)) (fun u => mX mm q jn cI x0 x1 x2 x3 x4 (u.2.1) (u.2.2.1) (u.2.2.2.1) (u.2.2.2.2.1) (u.2.2.2.2.2.1) (u.2.2.2.2.2.2.1) (u.2.2.2.2.2.2.2.1) (u.2.2.2.2.2.2.2.2.1) (u.2.2.2.2.2.2.2.2.2.1) (u.2.2.2.2.2.2.2.2.2.2.1) x15 x16 x17 x18 x19 x20 f0 f1 f2 (u.2.2.2.2.2.2.2.2.2.2.2.1) (u.2.2.2.2.2.2.2.2.2.2.2.2.1) (u.2.2.2.2.2.2.2.2.2.2.2.2.2.1) (u.2.2.2.2.2.2.2.2.2.2.2.2.2.2.1) (u.2.2.2.2.2.2.2.2.2.2.2.2.2.2.2.1) (u.2.2.2.2.2.2.2.2.2.2.2.2.2.2.2.2.1) (u.2.2.2.2.2.2.2.2.2.2.2.2.2.2.2.2.2) f10 f11 f12 f13 f14 f15 f16 f17 f18 f19 f20 f21 f22 f23 f24) (fun u => (x5.toInt ≤ u.2.1.toInt ∧ u.2.1.toInt ≤ x2.toInt) ∧ (TokOK u.2.2.2.1 u.2.2.2.2.1) ∧ (FreshX jn u.2.2.2.2.2.2.2.2.2.2.2.2.2.2.2.2.1 u.2.2.2.2.2.2.2.2.2.2.2.2.2.2.2.2.2) ∧ (FreshZ jn u.2.2.2.2.2.2.2.2.2.2.2.2.2.2.2.2.1 u.2.2.2.2.2.2.2.2.2.2.2.2.2.2.2.2.2) ∧ (Hd ((u.1.toInt = 0 ∧ ClR P ks vs i E F f0 u.2.2.2.2.2.2.2.2.2.2.2.2.2.2.2.2.1 u.2.2.2.2.2.2.2.2.2.2.2.2.2.2.2.2.2 x0.toInt u.2.1 u.2.2.2.1 u.2.2.2.2.1) ∨ (u.1.toInt ≠ 0 ∧ TFls ks vs (i, E, F))))) D (va_A (mX mm q jn cI x0 x1 x2 x3 x4 x5 x6 x7 x8 x9 x10 x11 x12 x13 x14 x15 x16 x17 x18 x19 x20 f0 f1 f2 f3 f4 f5 f6 f7 f8 f9 f10 f11 f12 f13 f14 f15 f16 f17 f18 f19 f20 f21 f22 f23 f24) sz)) 0 0 (va_A (mX mm q jn cI x0 x1 x2 x3 x4 x5 x6 x7 x8 x9 x10 x11 x12 x13 x14 x15 x16 x17 x18 x19 x20 f0 f1 f2 f3 f4 f5 f6 f7 f8 f9 f10 f11 f12 f13 f14 f15 f16 f17 f18 f19 f20 f21 f22 f23 f24) sz) := by
  refine go (cc := cX11_rowClause) (maxL := 4) (ret := (some .int)) (by decide) rfl (Nat.le_of_ble_eq_true rfl) ?_
  intro p e s m below meth c ls args Q hQ hsz hx hb hr hml hts hown hlocks hnm hP hK hD hl
  subst hsz
  have hD := hD.self (sz := s.heap.size)
  generalize hAe : va_A (mX mm q jn cI x0 x1 x2 x3 x4 x5 x6 x7 x8 x9 x10 x11 x12 x13 x14 x15 x16 x17 x18 x19 x20 f0 f1 f2 f3 f4 f5 f6 f7 f8 f9 f10 f11 f12 f13 f14 f15 f16 f17 f18 f19 f20 f21 f22 f23 f24) s.heap.size = A at hD hQ
  have hA : ∀ q, s.heap.size ≤ q → A q := fun q h => by rw [← hAe]; exact Or.inr h
  have hS : va_S A s.heap s.heap [] := va_S.rf
  have hl : lv_has ls 4 [(0, .ref mm)] := hl
  have hcu0 := hCU
  obtain ⟨u1_0, u2_0, u3_0⟩ := hcu0
  refine lv_aload_n hx hb dX11_rowClause_0 rfl (lv_at hl 0 rfl) ?_
  refine call_g (wr := []) (va_runV (As := []) (rest := []) ⟨hx, hb, hml, hown, hts⟩ (k_next2 l D cI cR cM _  (by first | assumption | omega) (by first | assumption | omega)) (cwV 0 hts gX11_rowClause_X11_nextToken rfl rfl rfl (by decide +kernel) ⟨Nat.le_of_ble_eq_true rfl, Nat.le_of_ble_eq_true rfl⟩) (pre_V hK hP hD 0 11 rfl rfl) rfl rfl hl.1 rfl (lv_room (Nat.le_of_ble_eq_true rfl)) dX11_rowClause_1 ⟨Nat.le_of_ble_eq_true rfl, Nat.le_of_ble_eq_true rfl⟩) hP hD hS hA [0, 1, 2, 3, 4, 5, 6, 7, 8, 9, 10, 11, 12, 13, 14, 15, 16, 17, 18, 19, 20, 21, 22, 23, 24, 25] [] (by with_unfolding_all rfl) rfl (by decide) (by decide) (fun u_1 H locs hw hP hD hS => ?_)
  obtain ⟨y5_1, y6_1, y7_1, y8_1⟩ := u_1
  have hP : va_P D vwCl (mX mm q jn cI x0 x1 x2 x3 x4 y5_1 y6_1 y7_1 y8_1 x9 x10 x11 x12 x13 x14 x15 x16 x17 x18 x19 x20 f0 f1 f2 f3 f4 f5 f6 f7 f8 f9 f10 f11 f12 f13 f14 f15 f16 f17 f18 f19 f20 f21 f22 f23 f24) H := hP
  have hD : va_D A (mX mm q jn cI x0 x1 x2 x3 x4 y5_1 y6_1 y7_1 y8_1 x9 x10 x11 x12 x13 x14 x15 x16 x17 x18 x19 x20 f0 f1 f2 f3 f4 f5 f6 f7 f8 f9 f10 f11 f12 f13 f14 f15 f16 f17 f18 f19 f20 f21 f22 f23 f24) := hD
  obtain ⟨ha_1, hp_1, hk_1, hT_1, hR_1⟩ : (x5.toInt ≤ y5_1.toInt ∧ y5_1.toInt ≤ x2.toInt) ∧ (0 ≤ y6_1.toInt ∧ y6_1.toInt ≤ 300) ∧ (y7_1.toInt = 0 ∨ x5.toInt < y5_1.toInt) ∧ (TokOK y7_1 y8_1) ∧ (∃ v9 : Int, TkR (sE f2 x2.toInt) x5.toInt y7_1.toInt v9 y6_1.toInt y5_1.toInt ∧ (y7_1.toInt = 1 ∨ y7_1.toInt = 2 → y8_1.toInt = v9)) := hw
  obtain ⟨v9_1, q1_1, q2_1⟩ := hR_1
  have hcu_1 : CU P ks vs (i + 1) y5_1 y7_1 y8_1 := CU_n hSM hCU.1 q1_1 q2_1
  have hcv_1 := hcu_1
  obtain ⟨u1_1, u2_1, u3_1⟩ := hcv_1
  refine lv_aload_n hx hb dX11_rowClause_4 rfl (lv_at hl 0 rfl) ?_
  refine va_get (D := D) (ci := 11) (v := .int y7_1) (C := RX11) (T := TX11) (N := 47) hx hb hts (by decide +kernel) hown hK.1 hP 0 rfl rfl 11 (by decide) (hts (.fieldLink RX11 131 "JugglingHallModel" "token" "I") (by decide +kernel)) (fun _ h9 => h9) rfl dX11_rowClause_5 ?_
  refine lv_iconst (v := 2) hx hb dX11_rowClause_8 (by decide) ?_
  refine a_icmp_eq (u := y7_1.toInt) (v := 2) (tgt := 22) hx hb dX11_rowClause_9 (by decide) (rfl) (by decide) (fun c_2 => ?_) (fun c_2 => ?_)
  · refine lv_aload_n hx hb dX11_rowClause_22 rfl (lv_at hl 0 rfl) ?_
    refine va_get (D := D) (ci := 11) (v := .int y8_1) (C := RX11) (T := TX11) (N := 47) hx hb hts (by decide +kernel) hown hK.1 hP 0 rfl rfl 12 (by decide) (hts (.fieldLink RX11 138 "JugglingHallModel" "value" "I") (by decide +kernel)) (fun _ h9 => h9) rfl dX11_rowClause_23 ?_
    have hl9 : 0 ≤ y8_1.toInt ∧ y8_1.toInt ≤ 7 := hT_1.2.2 (by omega)
    have hlv : y8_1.toInt = vs (i + 1) := u3_1 (Or.inr (by omega))
    refine lv_istore_n (lv' := [(1, .int y8_1), (0, .ref mm)]) hx hb dX11_rowClause_26 rfl hl (by decide) rfl (fun ls hl => ?_)
    refine lv_aload_n hx hb dX11_rowClause_27 rfl (lv_at hl 1 rfl) ?_
    refine call_g (wr := []) (va_runV (As := []) (rest := []) ⟨hx, hb, hml, hown, hts⟩ (k_next2 l D cI cR cM _  (by first | assumption | omega) (by first | assumption | omega)) (cwV 0 hts gX11_rowClause_X11_nextToken rfl rfl rfl (by decide +kernel) ⟨Nat.le_of_ble_eq_true rfl, Nat.le_of_ble_eq_true rfl⟩) (pre_V hK hP hD 0 11 rfl rfl) rfl rfl hl.1 rfl (lv_room (Nat.le_of_ble_eq_true rfl)) dX11_rowClause_28 ⟨Nat.le_of_ble_eq_true rfl, Nat.le_of_ble_eq_true rfl⟩) hP hD hS hA [0, 1, 2, 3, 4, 5, 6, 7, 8, 9, 10, 11, 12, 13, 14, 15, 16, 17, 18, 19, 20, 21, 22, 23, 24, 25] [] (by with_unfolding_all rfl) rfl (by decide) (by decide) (fun u_3 H locs hw hP hD hS => ?_)
    obtain ⟨y5_3, y6_3, y7_3, y8_3⟩ := u_3
    have hP : va_P D vwCl (mX mm q jn cI x0 x1 x2 x3 x4 y5_3 y6_3 y7_3 y8_3 x9 x10 x11 x12 x13 x14 x15 x16 x17 x18 x19 x20 f0 f1 f2 f3 f4 f5 f6 f7 f8 f9 f10 f11 f12 f13 f14 f15 f16 f17 f18 f19 f20 f21 f22 f23 f24) H := hP
    have hD : va_D A (mX mm q jn cI x0 x1 x2 x3 x4 y5_3 y6_3 y7_3 y8_3 x9 x10 x11 x12 x13 x14 x15 x16 x17 x18 x19 x20 f0 f1 f2 f3 f4 f5 f6 f7 f8 f9 f10 f11 f12 f13 f14 f15 f16 f17 f18 f19 f20 f21 f22 f23 f24) := hD
    obtain ⟨ha_3, hp_3, hk_3, hT_3, hR_3⟩ : (y5_1.toInt ≤ y5_3.toInt ∧ y5_3.toInt ≤ x2.toInt) ∧ (0 ≤ y6_3.toInt ∧ y6_3.toInt ≤ 300) ∧ (y7_3.toInt = 0 ∨ y5_1.toInt < y5_3.toInt) ∧ (TokOK y7_3 y8_3) ∧ (∃ v9 : Int, TkR (sE f2 x2.toInt) y5_1.toInt y7_3.toInt v9 y6_3.toInt y5_3.toInt ∧ (y7_3.toInt = 1 ∨ y7_3.toInt = 2 → y8_3.toInt = v9)) := hw
    obtain ⟨v9_3, q1_3, q2_3⟩ := hR_3
    have hcu_3 : CU P ks vs (i + 2) y5_3 y7_3 y8_3 := CU_n hSM hcu_1.1 q1_3 q2_3
    have hcv_3 := hcu_3
    obtain ⟨u1_3, u2_3, u3_3⟩ := hcv_3
    refine lv_aload_n hx hb dX11_rowClause_31 rfl (lv_at hl 1 rfl) ?_
    refine va_get (D := D) (ci := 11) (v := .int y7_3) (C := RX11) (T := TX11) (N := 47) hx hb hts (by decide +kernel) hown hK.1 hP 0 rfl rfl 11 (by decide) (hts (.fieldLink RX11 131 "JugglingHallModel" "token" "I") (by decide +kernel)) (fun _ h9 => h9) rfl dX11_rowClause_32 ?_
    refine lv_bipush (v := 61) hx hb dX11_rowClause_35 (by decide) ?_
    refine a_icmp_eq (u := y7_3.toInt) (v := 61) (tgt := 50) hx hb dX11_rowClause_37 (by decide) (rfl) (by decide) (fun c_4 => ?_) (fun c_4 => ?_)
    · refine lv_aload_n hx hb dX11_rowClause_50 rfl (lv_at hl 1 rfl) ?_
      refine call_g (wr := []) (va_runV (As := []) (rest := []) ⟨hx, hb, hml, hown, hts⟩ (k_next2 l D cI cR cM _  (by first | assumption | omega) (by first | assumption | omega)) (cwV 0 hts gX11_rowClause_X11_nextToken rfl rfl rfl (by decide +kernel) ⟨Nat.le_of_ble_eq_true rfl, Nat.le_of_ble_eq_true rfl⟩) (pre_V hK hP hD 0 11 rfl rfl) rfl rfl hl.1 rfl (lv_room (Nat.le_of_ble_eq_true rfl)) dX11_rowClause_51 ⟨Nat.le_of_ble_eq_true rfl, Nat.le_of_ble_eq_true rfl⟩) hP hD hS hA [0, 1, 2, 3, 4, 5, 6, 7, 8, 9, 10, 11, 12, 13, 14, 15, 16, 17, 18, 19, 20, 21, 22, 23, 24, 25] [] (by with_unfolding_all rfl) rfl (by decide) (by decide) (fun u_5 H locs hw hP hD hS => ?_)
      obtain ⟨y5_5, y6_5, y7_5, y8_5⟩ := u_5
      have hP : va_P D vwCl (mX mm q jn cI x0 x1 x2 x3 x4 y5_5 y6_5 y7_5 y8_5 x9 x10 x11 x12 x13 x14 x15 x16 x17 x18 x19 x20 f0 f1 f2 f3 f4 f5 f6 f7 f8 f9 f10 f11 f12 f13 f14 f15 f16 f17 f18 f19 f20 f21 f22 f23 f24) H := hP
      have hD : va_D A (mX mm q jn cI x0 x1 x2 x3 x4 y5_5 y6_5 y7_5 y8_5 x9 x10 x11 x12 x13 x14 x15 x16 x17 x18 x19 x20 f0 f1 f2 f3 f4 f5 f6 f7 f8 f9 f10 f11 f12 f13 f14 f15 f16 f17 f18 f19 f20 f21 f22 f23 f24) := hD
      obtain ⟨ha_5, hp_5, hk_5, hT_5, hR_5⟩ : (y5_3.toInt ≤ y5_5.toInt ∧ y5_5.toInt ≤ x2.toInt) ∧ (0 ≤ y6_5.toInt ∧ y6_5.toInt ≤ 300) ∧ (y7_5.toInt = 0 ∨ y5_3.toInt < y5_5.toInt) ∧ (TokOK y7_5 y8_5) ∧ (∃ v9 : Int, TkR (sE f2 x2.toInt) y5_3.toInt y7_5.toInt v9 y6_5.toInt y5_5.toInt ∧ (y7_5.toInt = 1 ∨ y7_5.toInt = 2 → y8_5.toInt = v9)) := hw
      obtain ⟨v9_5, q1_5, q2_5⟩ := hR_5
      have hcu_5 : CU P ks vs (i + 3) y5_5 y7_5 y8_5 := CU_n hSM hcu_3.1 q1_5 q2_5
      have hcv_5 := hcu_5
      obtain ⟨u1_5, u2_5, u3_5⟩ := hcv_5
      refine lv_aload_n hx hb dX11_rowClause_54 rfl (lv_at hl 1 rfl) ?_
      refine call_g (wr := []) (va_runV (As := []) (rest := []) ⟨hx, hb, hml, hown, hts⟩ (k_sequence3 l D cI cR cM _ (P := P) (ks := ks) (vs := vs) (i := i + 3) (E := E) (by first | assumption | omega) (by first | assumption | omega) (by first | assumption | omega) (by first | assumption | omega) (by first | assumption | omega) (by first | assumption | omega) (by first | assumption | omega) (by first | assumption | omega) (by first | assumption | omega) (by first | assumption | omega) (by first | assumption | omega) (hcu_5) (hE) (fun l9 b9 h6 h7 h8 h9 => (hEO l9 h6 h7).2.2 b9 h8 h9)) (cwV 0 hts gX11_rowClause_X11_sequence rfl rfl rfl (by decide +kernel) ⟨Nat.le_of_ble_eq_true rfl, Nat.le_of_ble_eq_true rfl⟩) (pre_V hK hP hD 0 11 rfl rfl) rfl rfl hl.1 rfl (lv_room (Nat.le_of_ble_eq_true rfl)) dX11_rowClause_55 ⟨Nat.le_of_ble_eq_true rfl, Nat.le_of_ble_eq_true rfl⟩) hP hD hS hA [0, 1, 2, 3, 4, 5, 6, 7, 8, 9, 10, 11, 12, 13, 14, 15, 16, 17, 18, 19, 20, 21, 22, 23, 24, 25] [] (by with_unfolding_all rfl) rfl (by decide) (by decide) (fun u_6 H locs hw hP hD hS => ?_)
      obtain ⟨r_6, y5_6, y6_6, y7_6, y8_6, y9_6, y10_6, y11_6, y12_6, y13_6, y14_6, g3_6, g4_6, g5_6, g6_6, g7_6⟩ := u_6
      have hP : va_P D vwCl (mX mm q jn cI x0 x1 x2 x3 x4 y5_6 y6_6 y7_6 y8_6 y9_6 y10_6 y11_6 y12_6 y13_6 y14_6 x15 x16 x17 x18 x19 x20 f0 f1 f2 g3_6 g4_6 g5_6 g6_6 g7_6 f8 f9 f10 f11 f12 f13 f14 f15 f16 f17 f18 f19 f20 f21 f22 f23 f24) H := hP
      have hD : va_D A (mX mm q jn cI x0 x1 x2 x3 x4 y5_6 y6_6 y7_6 y8_6 y9_6 y10_6 y11_6 y12_6 y13_6 y14_6 x15 x16 x17 x18 x19 x20 f0 f1 f2 g3_6 g4_6 g5_6 g6_6 g7_6 f8 f9 f10 f11 f12 f13 f14 f15 f16 f17 f18 f19 f20 f21 f22 f23 f24) := hD
      obtain ⟨ha_6, hT_6, hb_6, hC_6, hZ_6, hF_6⟩ : (y5_5.toInt ≤ y5_6.toInt ∧ y5_6.toInt ≤ x2.toInt) ∧ (TokOK y7_6 y8_6) ∧ (r_6.toInt = 0 → 0 ≤ y10_6.toInt ∧ y10_6.toInt ≤ 24) ∧ (r_6.toInt = 0 → CellsX jn g3_6 0 (6 * y10_6.toInt)) ∧ (r_6.toInt = 0 → ZX jn g3_6 0 y10_6.toInt) ∧ (Hd ((r_6.toInt = 0 ∧ SqR P ks vs E (i + 3) y5_6 y7_6 y8_6 y10_6.toInt g3_6) ∨ (r_6.toInt ≠ 0 ∧ Fls ks vs E (Cf0 (i + 3))))) := hw
      refine lv_istore_n (lv' := [(2, .int r_6), (1, .int y8_1), (0, .ref mm)]) hx hb dX11_rowClause_58 rfl hl (by decide) rfl (fun ls hl => ?_)
      refine lv_iload_n hx hb dX11_rowClause_59 rfl (lv_at hl 0 rfl) ?_
      refine a_if_eq (u := r_6.toInt) (tgt := 65) hx hb dX11_rowClause_60 (by decide) (rfl) (fun c_7 => ?_) (fun c_7 => ?_)
      · refine lv_aload_n hx hb dX11_rowClause_65 rfl (lv_at hl 2 rfl) ?_
        refine va_get (D := D) (ci := 11) (v := .int y7_6) (C := RX11) (T := TX11) (N := 47) hx hb hts (by decide +kernel) hown hK.1 hP 0 rfl rfl 11 (by decide) (hts (.fieldLink RX11 131 "JugglingHallModel" "token" "I") (by decide +kernel)) (fun _ h9 => h9) rfl dX11_rowClause_66 ?_
        refine lv_bipush (v := 59) hx hb dX11_rowClause_69 (by decide) ?_
        refine a_icmp_eq (u := y7_6.toInt) (v := 59) (tgt := 84) hx hb dX11_rowClause_71 (by decide) (rfl) (by decide) (fun c_8 => ?_) (fun c_8 => ?_)
        · have ht9 := hb_6 (by omega)
          have hC9 := hC_6 (by omega)
          have hZ9 := hZ_6 (by omega)
          refine lv_aload_n hx hb dX11_rowClause_84 rfl (lv_at hl 2 rfl) ?_
          refine va_get (D := D) (ci := 11) (v := .ref (q 8)) (C := RX11) (T := TX11) (N := 47) hx hb hts (by decide +kernel) hown hK.1 hP 0 rfl rfl 22 (by decide) (hts (.fieldLink RX11 42 "JugglingHallModel" "freshMany" "[I") (by decide +kernel)) (fun _ h9 => h9) rfl dX11_rowClause_85 ?_
          refine lv_iload_n hx hb dX11_rowClause_88 rfl (lv_at hl 1 rfl) ?_
          refine lv_aload_n hx hb dX11_rowClause_89 rfl (lv_at hl 2 rfl) ?_
          refine va_get (D := D) (ci := 11) (v := .int y10_6) (C := RX11) (T := TX11) (N := 47) hx hb hts (by decide +kernel) hown hK.1 hP 0 rfl rfl 19 (by decide) (hts (.fieldLink RX11 151 "JugglingHallModel" "top" "I") (by decide +kernel)) (fun _ h9 => h9) rfl dX11_rowClause_90 ?_
          refine ma_8 (u := y8_1.toInt) hx hb hK hP hD hS dX11_rowClause_93 (rfl) (by omega) (fun g_9 H locs eg_9 hP hD hS => ?_)
          have hm1 : ∀ i : Int, 0 ≤ i → i ≠ y8_1.toInt → g_9 i.toNat = f8 i.toNat := fun i i0 i1 => by rw [eg_9, un_i i0 (by omega) (by omega)]
          have hm2 : (g_9 y8_1.toInt.toNat).toInt = y10_6.toInt := by rw [eg_9, show y8_1.toInt = y8_1.toInt by omega, pk_us]
          refine lv_iconst (v := 0) hx hb dX11_rowClause_94 (by decide) ?_
          refine lv_istore_n (lv' := [(3, .int 0), (2, .int r_6), (1, .int y8_1), (0, .ref mm)]) hx hb dX11_rowClause_95 rfl hl (by decide) rfl (fun ls hl => ?_)
          have loop96 : ∀ (ddloop96 : Nat) (k : Int32) (ga : (Nat → Int32)) (H : Heap) (locs : List Loc) (ls : Array Slot), (6 * y10_6.toInt - k.toInt).toNat < ddloop96 → (0 ≤ k.toInt ∧ k.toInt ≤ 6 * y10_6.toInt) → (∀ i : Int, 0 ≤ i → (i < 144 * y8_1.toInt ∨ 144 * y8_1.toInt + 144 ≤ i) → ga i.toNat = f9 i.toNat) → (∀ i : Int, 0 ≤ i → i < k.toInt → ga (144 * y8_1.toInt + i).toNat = g3_6 i.toNat) → va_P D vwCl (mX mm q jn cI x0 x1 x2 x3 x4 y5_6 y6_6 y7_6 y8_6 y9_6 y10_6 y11_6 y12_6 y13_6 y14_6 x15 x16 x17 x18 x19 x20 f0 f1 f2 g3_6 g4_6 g5_6 g6_6 g7_6 g_9 ga f10 f11 f12 f13 f14 f15 f16 f17 f18 f19 f20 f21 f22 f23 f24) H → va_D A (mX mm q jn cI x0 x1 x2 x3 x4 y5_6 y6_6 y7_6 y8_6 y9_6 y10_6 y11_6 y12_6 y13_6 y14_6 x15 x16 x17 x18 x19 x20 f0 f1 f2 g3_6 g4_6 g5_6 g6_6 g7_6 g_9 ga f10 f11 f12 f13 f14 f15 f16 f17 f18 f19 f20 f21 f22 f23 f24) → va_S A s.heap H locs → lv_has ls 4 [(0, .ref mm), (1, .int y8_1), (2, .int r_6), (3, .int k)] → W p l e ({ frames := 8, cells := 0, slots := 0, locals := 180 }) s m args below meth c H locs 0 0 Q (F0 m 96 ls []) := by
            intro ddloop96
            induction ddloop96 with
            | zero =>
              intro k ga H locs ls hdd
              exact absurd hdd (Nat.not_lt_zero _)
            | succ ddloop96 ih96 =>
              intro k ga H locs ls hdd hk hgo hgc hP hD hS hl
              refine lv_iload_n hx hb dX11_rowClause_96 rfl (lv_at hl 3 rfl) ?_
              refine lv_bipush (v := 6) hx hb dX11_rowClause_97 (by decide) ?_
              refine lv_aload_n hx hb dX11_rowClause_99 rfl (lv_at hl 0 rfl) ?_
              refine va_get (D := D) (ci := 11) (v := .int y10_6) (C := RX11) (T := TX11) (N := 47) hx hb hts (by decide +kernel) hown hK.1 hP 0 rfl rfl 19 (by decide) (hts (.fieldLink RX11 151 "JugglingHallModel" "top" "I") (by decide +kernel)) (fun _ h9 => h9) rfl dX11_rowClause_100 ?_
              refine a_imul (u := 6) (v := y10_6.toInt) hx hb dX11_rowClause_103 (by decide) (rfl) (by omega) (fun z_10 e_10 => ?_)
              refine a_icmp_ge (u := k.toInt) (v := (6 * y10_6.toInt)) (tgt := 131) hx hb dX11_rowClause_104 (by decide) (rfl) (e_10) (fun c_11 => ?_) (fun c_11 => ?_)
              · refine lv_iconst (v := 0) hx hb dX11_rowClause_131 (by decide) ?_
                have hz_12 : (0 : Int32).toInt = 0 := by decide
                exact g_iret ((0 : Int32), y5_6, y6_6, y7_6, y8_6, y9_6, y10_6, y11_6, y12_6, y13_6, y14_6, g3_6, g4_6, g5_6, g6_6, g7_6, g_9, ga) hx hb hr hlocks hS rfl (⟨show x5.toInt ≤ y5_6.toInt ∧ y5_6.toInt ≤ x2.toInt from (by first | assumption | omega), show TokOK y7_6 y8_6 from (by first | assumption | omega), show FreshX jn g_9 ga from (fresh_set hFr (l := y8_1.toInt) (t := y10_6.toInt) (by omega) (by omega) hm1 hm2 hgo (fun i i0 i1 => hgc i i0 (by omega)) hC9), show FreshZ jn g_9 ga from (freshz_set hFr hFZ (l := y8_1.toInt) (t := y10_6.toInt) (by omega) (by omega) hm1 hm2 hgo (fun i i0 i1 => hgc i i0 (by omega)) hZ9), show Hd (((0 : Int32).toInt = 0 ∧ ClR P ks vs i E F f0 g_9 ga x0.toInt y5_6 y7_6 y8_6) ∨ ((0 : Int32).toInt ≠ 0 ∧ TFls ks vs (i, E, F))) from (Or.inl ⟨by omega, clr_row (l := y8_1.toInt) hk5 (by omega) (by omega) hlv (or_T hF_6 (by omega)) (by omega) hE hEO hTF (fun k9 h8 h9 => (hFr k9 h8 h9).2.1) (by omega) (by omega) hm1 hm2 hgo (fun i9 h8 h9 => hgc i9 h8 (by omega))⟩)⟩) hP hD hQ (Nat.le_of_ble_eq_true rfl) (Nat.le_of_ble_eq_true rfl) dX11_rowClause_132
              · refine lv_aload_n hx hb dX11_rowClause_107 rfl (lv_at hl 0 rfl) ?_
                refine va_get (D := D) (ci := 11) (v := .ref (q 9)) (C := RX11) (T := TX11) (N := 47) hx hb hts (by decide +kernel) hown hK.1 hP 0 rfl rfl 23 (by decide) (hts (.fieldLink RX11 45 "JugglingHallModel" "fresh" "[I") (by decide +kernel)) (fun _ h9 => h9) rfl dX11_rowClause_108 ?_
                refine lv_sipush (v := 144) hx hb dX11_rowClause_111 (by decide) ?_
                refine lv_iload_n hx hb dX11_rowClause_114 rfl (lv_at hl 1 rfl) ?_
                refine a_imul (u := 144) (v := y8_1.toInt) hx hb dX11_rowClause_115 (by decide) (rfl) (by omega) (fun z_13 e_13 => ?_)
                refine lv_iload_n hx hb dX11_rowClause_116 rfl (lv_at hl 3 rfl) ?_
                refine a_iadd (u := (144 * y8_1.toInt)) (v := k.toInt) hx hb dX11_rowClause_117 (e_13) (rfl) (by omega) (fun z_14 e_14 => ?_)
                refine lv_aload_n hx hb dX11_rowClause_118 rfl (lv_at hl 0 rfl) ?_
                refine va_get (D := D) (ci := 11) (v := .ref (q 3)) (C := RX11) (T := TX11) (N := 47) hx hb hts (by decide +kernel) hown hK.1 hP 0 rfl rfl 14 (by decide) (hts (.fieldLink RX11 27 "JugglingHallModel" "work" "[I") (by decide +kernel)) (fun _ h9 => h9) rfl dX11_rowClause_119 ?_
                refine lv_iload_n hx hb dX11_rowClause_122 rfl (lv_at hl 3 rfl) ?_
                refine a_iald (f := g3_6) (u := k.toInt) hx hb hK.1 hP 4 0 rfl rfl dX11_rowClause_123 (rfl) (by omega) (fun z_15 q_15 e_15 => ?_)
                refine ma_9 (u := ((144 * y8_1.toInt) + k.toInt)) hx hb hK hP hD hS dX11_rowClause_124 (e_14) (by omega) (fun g_16 H locs eg_16 hP hD hS => ?_)
                obtain ⟨z_17, q_17, e_17⟩ := i_inc (a := k.toInt) (1) (rfl) (by decide) (by omega) (by omega)
                refine lv_iinc (v := z_17) (lv' := [(3, .int z_17), (0, .ref mm), (1, .int y8_1), (2, .int r_6)]) hx hb dX11_rowClause_125 hl (k := 3) rfl q_17 (by decide) rfl (fun ls hl => ?_)
                refine lv_goto (tgt := 96) hx hb dX11_rowClause_128 (by decide) ?_
                exact ih96 z_17 g_16 _ _ _ (by omega) (by first | assumption | omega) (fun i i0 i1 => by rw [eg_16, un_i i0 (by omega) (by omega)]; exact hgo i i0 i1) (fun i i0 i1 => by
                  by_cases q : i = k.toInt
                  · rw [eg_16, q, show 144 * y8_1.toInt + k.toInt = ((144 * y8_1.toInt) + k.toInt) by omega, pk_us, q_15, show k.toInt = k.toInt by omega]
                  · rw [eg_16, un_i (by omega) (by omega) (by omega)]; exact hgc i i0 (by omega)) hP hD hS (lv_sub hl [1, 2, 3, 0] rfl)
          have hz_18 : (0 : Int32).toInt = 0 := by decide
          exact loop96 ((6 * y10_6.toInt - (0 : Int32).toInt).toNat + 1) (0 : Int32) f9 _ _ _ (by omega) (by first | assumption | omega) (fun _ _ _ => rfl) (fun i i0 i1 => absurd i1 (by omega)) hP hD hS (lv_sub hl [3, 2, 1, 0] rfl)
        · refine lv_aload_n hx hb dX11_rowClause_74 rfl (lv_at hl 2 rfl) ?_
          refine lv_iconst (v := 1) hx hb dX11_rowClause_75 (by decide) ?_
          refine lv_aload_n hx hb dX11_rowClause_76 rfl (lv_at hl 2 rfl) ?_
          refine va_get (D := D) (ci := 11) (v := .int y6_6) (C := RX11) (T := TX11) (N := 47) hx hb hts (by decide +kernel) hown hK.1 hP 0 rfl rfl 10 (by decide) (hts (.fieldLink RX11 120 "JugglingHallModel" "place" "I") (by decide +kernel)) (fun _ h9 => h9) rfl dX11_rowClause_77 ?_
          have hz_19 : (1 : Int32).toInt = 1 := by decide
          refine call_g (wr := []) (va_runV (As := [.int 1, .int y6_6]) (rest := []) ⟨hx, hb, hml, hown, hts⟩ (k_fails l D cI cR cM _  ) (cwV 2 hts gX11_rowClause_X11_fails rfl rfl rfl (by decide +kernel) ⟨Nat.le_of_ble_eq_true rfl, Nat.le_of_ble_eq_true rfl⟩) (pre_V hK hP hD 0 11 rfl rfl) rfl rfl hl.1 rfl (lv_room (Nat.le_of_ble_eq_true rfl)) dX11_rowClause_80 ⟨Nat.le_of_ble_eq_true rfl, Nat.le_of_ble_eq_true rfl⟩) hP hD hS hA [0, 1, 2, 3, 4, 5, 6, 7, 8, 9, 10, 11, 12, 13, 14, 15, 16, 17, 18, 19, 20, 21, 22, 23, 24, 25] [] (by with_unfolding_all rfl) rfl (by decide) (by decide) (fun u_20 H locs hw hP hD hS => ?_)
          obtain ⟨r_20, y9_20⟩ := u_20
          have hP : va_P D vwCl (mX mm q jn cI x0 x1 x2 x3 x4 y5_6 y6_6 y7_6 y8_6 y9_20 y10_6 y11_6 y12_6 y13_6 y14_6 x15 x16 x17 x18 x19 x20 f0 f1 f2 g3_6 g4_6 g5_6 g6_6 g7_6 f8 f9 f10 f11 f12 f13 f14 f15 f16 f17 f18 f19 f20 f21 f22 f23 f24) H := hP
          have hD : va_D A (mX mm q jn cI x0 x1 x2 x3 x4 y5_6 y6_6 y7_6 y8_6 y9_20 y10_6 y11_6 y12_6 y13_6 y14_6 x15 x16 x17 x18 x19 x20 f0 f1 f2 g3_6 g4_6 g5_6 g6_6 g7_6 f8 f9 f10 f11 f12 f13 f14 f15 f16 f17 f18 f19 f20 f21 f22 f23 f24) := hD
          have hr_20 : (r_20.toInt = (1 : Int32).toInt) := hw
          exact g_iret (r_20, y5_6, y6_6, y7_6, y8_6, y9_20, y10_6, y11_6, y12_6, y13_6, y14_6, g3_6, g4_6, g5_6, g6_6, g7_6, f8, f9) hx hb hr hlocks hS rfl (⟨show x5.toInt ≤ y5_6.toInt ∧ y5_6.toInt ≤ x2.toInt from (by first | assumption | omega), show TokOK y7_6 y8_6 from (by first | assumption | omega), show FreshX jn f8 f9 from (hFr), show FreshZ jn f8 f9 from (hFZ), show Hd ((r_20.toInt = 0 ∧ ClR P ks vs i E F f0 f8 f9 x0.toInt y5_6 y7_6 y8_6) ∨ (r_20.toInt ≠ 0 ∧ TFls ks vs (i, E, F))) from (by
            obtain ⟨ic, o9, mt9, w9, st9, op9, dg9, t1, t2, t3, t4⟩ := or_T hF_6 (by omega)
            exact Or.inr ⟨by omega, TF_5c hk5 t1 (by rw [← t2.2.1]; omega)⟩)⟩) hP hD hQ (Nat.le_of_ble_eq_true rfl) (Nat.le_of_ble_eq_true rfl) dX11_rowClause_83
      · refine lv_iload_n hx hb dX11_rowClause_63 rfl (lv_at hl 0 rfl) ?_
        exact g_iret (r_6, y5_6, y6_6, y7_6, y8_6, y9_6, y10_6, y11_6, y12_6, y13_6, y14_6, g3_6, g4_6, g5_6, g6_6, g7_6, f8, f9) hx hb hr hlocks hS rfl (⟨show x5.toInt ≤ y5_6.toInt ∧ y5_6.toInt ≤ x2.toInt from (by first | assumption | omega), show TokOK y7_6 y8_6 from (by first | assumption | omega), show FreshX jn f8 f9 from (hFr), show FreshZ jn f8 f9 from (hFZ), show Hd ((r_6.toInt = 0 ∧ ClR P ks vs i E F f0 f8 f9 x0.toInt y5_6 y7_6 y8_6) ∨ (r_6.toInt ≠ 0 ∧ TFls ks vs (i, E, F))) from (Or.inr ⟨by omega, TF_5b hk5 (or_F hF_6 (by omega))⟩)⟩) hP hD hQ (Nat.le_of_ble_eq_true rfl) (Nat.le_of_ble_eq_true rfl) dX11_rowClause_64
    · refine lv_aload_n hx hb dX11_rowClause_40 rfl (lv_at hl 1 rfl) ?_
      refine lv_iconst (v := 1) hx hb dX11_rowClause_41 (by decide) ?_
      refine lv_aload_n hx hb dX11_rowClause_42 rfl (lv_at hl 1 rfl) ?_
      refine va_get (D := D) (ci := 11) (v := .int y6_3) (C := RX11) (T := TX11) (N := 47) hx hb hts (by decide +kernel) hown hK.1 hP 0 rfl rfl 10 (by decide) (hts (.fieldLink RX11 120 "JugglingHallModel" "place" "I") (by decide +kernel)) (fun _ h9 => h9) rfl dX11_rowClause_43 ?_
      have hz_21 : (1 : Int32).toInt = 1 := by decide
      refine call_g (wr := []) (va_runV (As := [.int 1, .int y6_3]) (rest := []) ⟨hx, hb, hml, hown, hts⟩ (k_fails l D cI cR cM _  ) (cwV 2 hts gX11_rowClause_X11_fails rfl rfl rfl (by decide +kernel) ⟨Nat.le_of_ble_eq_true rfl, Nat.le_of_ble_eq_true rfl⟩) (pre_V hK hP hD 0 11 rfl rfl) rfl rfl hl.1 rfl (lv_room (Nat.le_of_ble_eq_true rfl)) dX11_rowClause_46 ⟨Nat.le_of_ble_eq_true rfl, Nat.le_of_ble_eq_true rfl⟩) hP hD hS hA [0, 1, 2, 3, 4, 5, 6, 7, 8, 9, 10, 11, 12, 13, 14, 15, 16, 17, 18, 19, 20, 21, 22, 23, 24, 25] [] (by with_unfolding_all rfl) rfl (by decide) (by decide) (fun u_22 H locs hw hP hD hS => ?_)
      obtain ⟨r_22, y9_22⟩ := u_22
      have hP : va_P D vwCl (mX mm q jn cI x0 x1 x2 x3 x4 y5_3 y6_3 y7_3 y8_3 y9_22 x10 x11 x12 x13 x14 x15 x16 x17 x18 x19 x20 f0 f1 f2 f3 f4 f5 f6 f7 f8 f9 f10 f11 f12 f13 f14 f15 f16 f17 f18 f19 f20 f21 f22 f23 f24) H := hP
      have hD : va_D A (mX mm q jn cI x0 x1 x2 x3 x4 y5_3 y6_3 y7_3 y8_3 y9_22 x10 x11 x12 x13 x14 x15 x16 x17 x18 x19 x20 f0 f1 f2 f3 f4 f5 f6 f7 f8 f9 f10 f11 f12 f13 f14 f15 f16 f17 f18 f19 f20 f21 f22 f23 f24) := hD
      have hr_22 : (r_22.toInt = (1 : Int32).toInt) := hw
      exact g_iret (r_22, y5_3, y6_3, y7_3, y8_3, y9_22, x10, x11, x12, x13, x14, f3, f4, f5, f6, f7, f8, f9) hx hb hr hlocks hS rfl (⟨show x5.toInt ≤ y5_3.toInt ∧ y5_3.toInt ≤ x2.toInt from (by first | assumption | omega), show TokOK y7_3 y8_3 from (by first | assumption | omega), show FreshX jn f8 f9 from (hFr), show FreshZ jn f8 f9 from (hFZ), show Hd ((r_22.toInt = 0 ∧ ClR P ks vs i E F f0 f8 f9 x0.toInt y5_3 y7_3 y8_3) ∨ (r_22.toInt ≠ 0 ∧ TFls ks vs (i, E, F))) from (Or.inr ⟨by omega, TF_5a hk5 (by omega)⟩)⟩) hP hD hQ (Nat.le_of_ble_eq_true rfl) (Nat.le_of_ble_eq_true rfl) dX11_rowClause_49
  · refine lv_aload_n hx hb dX11_rowClause_12 rfl (lv_at hl 0 rfl) ?_
    refine lv_iconst (v := 1) hx hb dX11_rowClause_13 (by decide) ?_
    refine lv_aload_n hx hb dX11_rowClause_14 rfl (lv_at hl 0 rfl) ?_
    refine va_get (D := D) (ci := 11) (v := .int y6_1) (C := RX11) (T := TX11) (N := 47) hx hb hts (by decide +kernel) hown hK.1 hP 0 rfl rfl 10 (by decide) (hts (.fieldLink RX11 120 "JugglingHallModel" "place" "I") (by decide +kernel)) (fun _ h9 => h9) rfl dX11_rowClause_15 ?_
    have hz_23 : (1 : Int32).toInt = 1 := by decide
    refine call_g (wr := []) (va_runV (As := [.int 1, .int y6_1]) (rest := []) ⟨hx, hb, hml, hown, hts⟩ (k_fails l D cI cR cM _  ) (cwV 2 hts gX11_rowClause_X11_fails rfl rfl rfl (by decide +kernel) ⟨Nat.le_of_ble_eq_true rfl, Nat.le_of_ble_eq_true rfl⟩) (pre_V hK hP hD 0 11 rfl rfl) rfl rfl hl.1 rfl (lv_room (Nat.le_of_ble_eq_true rfl)) dX11_rowClause_18 ⟨Nat.le_of_ble_eq_true rfl, Nat.le_of_ble_eq_true rfl⟩) hP hD hS hA [0, 1, 2, 3, 4, 5, 6, 7, 8, 9, 10, 11, 12, 13, 14, 15, 16, 17, 18, 19, 20, 21, 22, 23, 24, 25] [] (by with_unfolding_all rfl) rfl (by decide) (by decide) (fun u_24 H locs hw hP hD hS => ?_)
    obtain ⟨r_24, y9_24⟩ := u_24
    have hP : va_P D vwCl (mX mm q jn cI x0 x1 x2 x3 x4 y5_1 y6_1 y7_1 y8_1 y9_24 x10 x11 x12 x13 x14 x15 x16 x17 x18 x19 x20 f0 f1 f2 f3 f4 f5 f6 f7 f8 f9 f10 f11 f12 f13 f14 f15 f16 f17 f18 f19 f20 f21 f22 f23 f24) H := hP
    have hD : va_D A (mX mm q jn cI x0 x1 x2 x3 x4 y5_1 y6_1 y7_1 y8_1 y9_24 x10 x11 x12 x13 x14 x15 x16 x17 x18 x19 x20 f0 f1 f2 f3 f4 f5 f6 f7 f8 f9 f10 f11 f12 f13 f14 f15 f16 f17 f18 f19 f20 f21 f22 f23 f24) := hD
    have hr_24 : (r_24.toInt = (1 : Int32).toInt) := hw
    exact g_iret (r_24, y5_1, y6_1, y7_1, y8_1, y9_24, x10, x11, x12, x13, x14, f3, f4, f5, f6, f7, f8, f9) hx hb hr hlocks hS rfl (⟨show x5.toInt ≤ y5_1.toInt ∧ y5_1.toInt ≤ x2.toInt from (by first | assumption | omega), show TokOK y7_1 y8_1 from (by first | assumption | omega), show FreshX jn f8 f9 from (hFr), show FreshZ jn f8 f9 from (hFZ), show Hd ((r_24.toInt = 0 ∧ ClR P ks vs i E F f0 f8 f9 x0.toInt y5_1 y7_1 y8_1) ∨ (r_24.toInt ≠ 0 ∧ TFls ks vs (i, E, F))) from (Or.inr ⟨by omega, TF_5a hk5 (by omega)⟩)⟩) hP hD hQ (Nat.le_of_ble_eq_true rfl) (Nat.le_of_ble_eq_true rfl) dX11_rowClause_21
theorem clr_0 {P ks vs : Nat → Int} {B : Int → Int} {b5 b7 b8 : Int32} {v q : Int} (h : SM B P ks vs) (ht : TkR B 0 b7.toInt v q b5.toInt) (hv : b7.toInt = 1 ∨ b7.toInt = 2 → b8.toInt = v) : CU P ks vs 0 b5 b7 b8 := CU_n (a5 := 0) h h.1.symm ht hv
theorem TF1_0 {M : Nat → Int32} (hz : ∀ i : Int, 0 ≤ i → i < 8 → (M i.toNat).toInt = 0) : TF1 M (fun _ => 0) := by
  intro l l0 l1
  have := hz l l0 l1
  exact ⟨fun q => absurd q (by omega), fun q => absurd q (show ¬ ((0 : Int) = 1) by decide)⟩
/-- what the loop over the clauses keeps -/
def TI1 (P ks vs : Nat → Int) (E0 : Env1) (R M C : Nat → Int32) (T : Int) (b5 b7 b8 : Int32) (i : Nat) (E : Env1) (F : Int → Int) : Prop := TGo ks vs (0, E0, fun _ => 0) (i, E, F) ∧ CU P ks vs i b5 b7 b8 ∧ EnvF R M C T E ∧ EOk E ∧ TF1 M F
theorem TI1_n {P ks vs : Nat → Int} {B : Int → Int} {E0 E : Env1} {F : Int → Int} {R M C M2 C2 : Nat → Int32} {T : Int} {a5 a7 a8 b5 b7 b8 d5 d7 d8 : Int32} {i : Nat} (h : TI1 P ks vs E0 R M C T a5 a7 a8 i E F) (hS9 : SM B P ks vs) (hc : ClR P ks vs i E F R M2 C2 T b5 b7 b8) (hn : ∃ v9 q9 : Int, TkR B b5.toInt d7.toInt v9 q9 d5.toInt ∧ (d7.toInt = 1 ∨ d7.toInt = 2 → d8.toInt = v9)) : ∃ (i1 : Nat) (E1 : Env1) (F1 : Int → Int), TI1 P ks vs E0 R M2 C2 T d5 d7 d8 i1 E1 F1 := by
  obtain ⟨ic, E1, F1, c1, c2, c3, c4, c5⟩ := hc
  obtain ⟨v9, q9, n1, n2⟩ := hn
  exact ⟨ic + 1, E1, F1, RGo_tr h.1 (RGo_1 c1), CU_n hS9 c2.1 n1 n2, c3, c4, c5⟩
set_option maxRecDepth 100000 in
set_option maxHeartbeats 4000000 in
theorem k_readText3 (l : Launch) (D : va_G) (cI cR cM : ClassId) (sz : Nat) {jn mm : Nat} {q : Nat → Nat} {x0 x1 x2 x3 x4 x5 x6 x7 x8 x9 x10 x11 x12 x13 x14 x15 x16 x17 x18 x19 x20 : Int32} {f0 f1 f2 f3 f4 f5 f6 f7 f8 f9 f10 f11 f12 f13 f14 f15 f16 f17 f18 f19 f20 f21 f22 f23 f24 : Nat → Int32} {P ks vs : Nat → Int} {Ev : Int → Env1} (ht : 0 ≤ x2.toInt ∧ x2.toInt ≤ 300) (hj : 1 ≤ jn ∧ jn ≤ 3) (h0 : 0 ≤ x0.toInt ∧ x0.toInt ≤ 60) (hR : RowsX jn f0) (hRZ : RowsZ jn f0) (hM : MK f11) (hFm : FM f10) (hj1 : jn = 1) (hSM : SM (sE f2 x2.toInt) P ks vs) (hEv : RefR f0 x0.toInt Ev) (hEO : EOk (Ev x0.toInt)) : Met l yX11_readText wsX11_readText ({ frames := 9, cells := 0, slots := 0, locals := 203 }) (P0 D cI cR cM [.ref mm] sz (mX mm q jn cI x0 x1 x2 x3 x4 x5 x6 x7 x8 x9 x10 x11 x12 x13 x14 x15 x16 x17 x18 x19 x20 f0 f1 f2 f3 f4 f5 f6 f7 f8 f9 f10 f11 f12 f13 f14 f15 f16 f17 f18 f19 f20 f21 f22 f23 f24)) (QG (S := Int32 × Int32 × Int32 × Int32 × Int32 × Int32 × Int32 × Int32 × Int32 × Int32 × Int32 × (Nat → Int32) × (Nat → Int32) × (Nat → Int32) × (Nat → Int32) × (Nat → Int32) × (Nat → Int32) × (Nat → Int32) × (Nat → Int32) × (Nat → Int32)) (fun u => some (.int u.1)) (fun u => mX mm q jn cI x0 x1 x2 x3 x4 (u.2.1) (u.2.2.1) (u.2.2.2.1) (u.2.2.2.2.1) (u.2.2.2.2.2.1) (u.2.2.2.2.2.2.1) (u.2.2.2.2.2.2.2.1) (u.2.2.2.2.2.2.2.2.1) (u.2.2.2.2.2.2.2.2.2.1) (u.2.2.2.2.2.2.2.2.2.2.1) x15 x16 x17 x18 x19 x20 f0 f1 f2 (u.2.2.2.2.2.2.2.2.2.2.2.1) (u.2.2.2.2.2.2.2.2.2.2.2.2.1) (u.2.2.2.2.2.2.2.2.2.2.2.2.2.1) (u.2.2.2.2.2.2.2.2.2.2.2.2.2.2.1) (u.2.2.2.2.2.2.2.2.2.2.2.2.2.2.2.1) (u.2.2.2.2.2.2.2.2.2.2.2.2.2.2.2.2.1) (u.2.2.2.2.2.2.2.2.2.2.2.2.2.2.2.2.2.1) (u.2.2.2.2.2.2.2.2.2.2.2.2.2.2.2.2.2.2.1) (u.2.2.2.2.2.2.2.2.2.2.2.2.2.2.2.2.2.2.2) f12 f13 f14 f15 f16 f17 f18 f19 f20 f21 f22 f23 f24) (fun u => (FreshX jn u.2.2.2.2.2.2.2.2.2.2.2.2.2.2.2.2.1 u.2.2.2.2.2.2.2.2.2.2.2.2.2.2.2.2.2.1) ∧ (FreshZ jn u.2.2.2.2.2.2.2.2.2.2.2.2.2.2.2.2.1 u.2.2.2.2.2.2.2.2.2.2.2.2.2.2.2.2.2.1) ∧ (MK u.2.2.2.2.2.2.2.2.2.2.2.2.2.2.2.2.2.2.2) ∧ (FM u.2.2.2.2.2.2.2.2.2.2.2.2.2.2.2.2.2.2.1) ∧ (Hd ((u.1.toInt = 0 ∧ ∃ (i9 : Nat) (E9 : Env1) (F9 : Int → Int), TWel ks vs (0, Ev x0.toInt, fun _ => 0) (i9, E9, F9) ∧ EnvF f0 u.2.2.2.2.2.2.2.2.2.2.2.2.2.2.2.2.1 u.2.2.2.2.2.2.2.2.2.2.2.2.2.2.2.2.2.1 x0.toInt E9 ∧ EOk E9 ∧ TF1 u.2.2.2.2.2.2.2.2.2.2.2.2.2.2.2.2.1 F9) ∨ (u.1.toInt ≠ 0 ∧ TFls ks vs (0, Ev x0.toInt, fun _ => 0))))) D (va_A (mX mm q jn cI x0 x1 x2 x3 x4 x5 x6 x7 x8 x9 x10 x11 x12 x13 x14 x15 x16 x17 x18 x19 x20 f0 f1 f2 f3 f4 f5 f6 f7 f8 f9 f10 f11 f12 f13 f14 f15 f16 f17 f18 f19 f20 f21 f22 f23 f24) sz)) 0 0 (va_A (mX mm q jn cI x0 x1 x2 x3 x4 x5 x6 x7 x8 x9 x10 x11 x12 x13 x14 x15 x16 x17 x18 x19 x20 f0 f1 f2 f3 f4 f5 f6 f7 f8 f9 f10 f11 f12 f13 f14 f15 f16 f17 f18 f19 f20 f21 f22 f23 f24) sz) := by
  refine go (cc := cX11_readText) (maxL := 2) (ret := (some .int)) (by decide) rfl (Nat.le_of_ble_eq_true rfl) ?_
  intro p e s m below meth c ls args Q hQ hsz hx hb hr hml hts hown hlocks hnm hP hK hD hl
  subst hsz
  have hD := hD.self (sz := s.heap.size)
  generalize hAe : va_A (mX mm q jn cI x0 x1 x2 x3 x4 x5 x6 x7 x8 x9 x10 x11 x12 x13 x14 x15 x16 x17 x18 x19 x20 f0 f1 f2 f3 f4 f5 f6 f7 f8 f9 f10 f11 f12 f13 f14 f15 f16 f17 f18 f19 f20 f21 f22 f23 f24) s.heap.size = A at hD hQ
  have hA : ∀ q, s.heap.size ≤ q → A q := fun q h => by rw [← hAe]; exact Or.inr h
  have hS : va_S A s.heap s.heap [] := va_S.rf
  have hl : lv_has ls 2 [(0, .ref mm)] := hl
  refine lv_iconst (v := 0) hx hb dX11_readText_0 (by decide) ?_
  refine lv_istore_n (lv' := [(1, .int 0), (0, .ref mm)]) hx hb dX11_readText_1 rfl hl (by decide) rfl (fun ls hl => ?_)
  have loop2 : ∀ (ddloop2 : Nat) (lx : Int32) (ga : (Nat → Int32)) (H : Heap) (locs : List Loc) (ls : Array Slot), (8 - lx.toInt).toNat < ddloop2 → (0 ≤ lx.toInt ∧ lx.toInt ≤ 8) → (∀ i : Int, 0 ≤ i → i < lx.toInt → (ga i.toNat).toInt = 0) → va_P D vwCl (mX mm q jn cI x0 x1 x2 x3 x4 x5 x6 x7 x8 x9 x10 x11 x12 x13 x14 x15 x16 x17 x18 x19 x20 f0 f1 f2 f3 f4 f5 f6 f7 ga f9 f10 f11 f12 f13 f14 f15 f16 f17 f18 f19 f20 f21 f22 f23 f24) H → va_D A (mX mm q jn cI x0 x1 x2 x3 x4 x5 x6 x7 x8 x9 x10 x11 x12 x13 x14 x15 x16 x17 x18 x19 x20 f0 f1 f2 f3 f4 f5 f6 f7 ga f9 f10 f11 f12 f13 f14 f15 f16 f17 f18 f19 f20 f21 f22 f23 f24) → va_S A s.heap H locs → lv_has ls 2 [(0, .ref mm), (1, .int lx)] → W p l e ({ frames := 9, cells := 0, slots := 0, locals := 203 }) s m args below meth c H locs 0 0 Q (F0 m 2 ls []) := by
    intro ddloop2
    induction ddloop2 with
    | zero =>
      intro lx ga H locs ls hdd
      exact absurd hdd (Nat.not_lt_zero _)
    | succ ddloop2 ih2 =>
      intro lx ga H locs ls hdd hk hga hP hD hS hl
      refine lv_iload_n hx hb dX11_readText_2 rfl (lv_at hl 1 rfl) ?_
      refine lv_bipush (v := 8) hx hb dX11_readText_3 (by decide) ?_
      refine a_icmp_ge (u := lx.toInt) (v := 8) (tgt := 21) hx hb dX11_readText_5 (by decide) (rfl) (by decide) (fun c_1 => ?_) (fun c_1 => ?_)
      · have hFr9 : FreshX jn ga f9 := fresh_0 (fun i i0 i1 => hga i i0 (by omega))
        have hFZ9 : FreshZ jn ga f9 := freshz_0 (fun i i0 i1 => hga i i0 (by omega))
        refine lv_aload_n hx hb dX11_readText_21 rfl (lv_at hl 0 rfl) ?_
        refine va_get (D := D) (ci := 11) (v := .ref (q 10)) (C := RX11) (T := TX11) (N := 47) hx hb hts (by decide +kernel) hown hK.1 hP 0 rfl rfl 24 (by decide) (hts (.fieldLink RX11 48 "JugglingHallModel" "freshMarks" "[I") (by decide +kernel)) (fun _ h9 => h9) rfl dX11_readText_22 ?_
        refine lv_iconst (v := 0) hx hb dX11_readText_25 (by decide) ?_
        refine lv_iconst (v := 0) hx hb dX11_readText_26 (by decide) ?_
        refine ma_10 (u := 0) hx hb hK hP hD hS dX11_readText_27 (by decide) (by omega) (fun g_2 H locs eg_2 hP hD hS => ?_)
        have hFm9 : FM g_2 := fm_set (x := 0) hFm (fun i i0 i1 => by rw [eg_2, un_i i0 (by omega) (by omega)]) (fun _ => by rw [eg_2, pk_us]; decide) (fun h => absurd h (by omega))
        refine lv_aload_n hx hb dX11_readText_28 rfl (lv_at hl 0 rfl) ?_
        refine lv_iconst (v := 0) hx hb dX11_readText_29 (by decide) ?_
        refine mp_5 hx hb hts (by decide +kernel) hown hK hP hD hS (hts (.fieldLink RX11 117 "JugglingHallModel" "at" "I") (by decide +kernel)) dX11_readText_30 (fun H locs hP hD hS => ?_)
        refine lv_aload_n hx hb dX11_readText_33 rfl (lv_at hl 0 rfl) ?_
        have hz_3 : (0 : Int32).toInt = 0 := by decide
        refine call_g (wr := []) (va_runV (As := []) (rest := []) ⟨hx, hb, hml, hown, hts⟩ (k_next2 l D cI cR cM _  (by first | assumption | omega) (by first | assumption | omega)) (cwV 0 hts gX11_readText_X11_nextToken rfl rfl rfl (by decide +kernel) ⟨Nat.le_of_ble_eq_true rfl, Nat.le_of_ble_eq_true rfl⟩) (pre_V hK hP hD 0 11 rfl rfl) rfl rfl hl.1 rfl (lv_room (Nat.le_of_ble_eq_true rfl)) dX11_readText_34 ⟨Nat.le_of_ble_eq_true rfl, Nat.le_of_ble_eq_true rfl⟩) hP hD hS hA [0, 1, 2, 3, 4, 5, 6, 7, 8, 9, 10, 11, 12, 13, 14, 15, 16, 17, 18, 19, 20, 21, 22, 23, 24, 25] [] (by with_unfolding_all rfl) rfl (by decide) (by decide) (fun u_4 H locs hw hP hD hS => ?_)
        obtain ⟨y5_4, y6_4, y7_4, y8_4⟩ := u_4
        have hP : va_P D vwCl (mX mm q jn cI x0 x1 x2 x3 x4 y5_4 y6_4 y7_4 y8_4 x9 x10 x11 x12 x13 x14 x15 x16 x17 x18 x19 x20 f0 f1 f2 f3 f4 f5 f6 f7 ga f9 g_2 f11 f12 f13 f14 f15 f16 f17 f18 f19 f20 f21 f22 f23 f24) H := hP
        have hD : va_D A (mX mm q jn cI x0 x1 x2 x3 x4 y5_4 y6_4 y7_4 y8_4 x9 x10 x11 x12 x13 x14 x15 x16 x17 x18 x19 x20 f0 f1 f2 f3 f4 f5 f6 f7 ga f9 g_2 f11 f12 f13 f14 f15 f16 f17 f18 f19 f20 f21 f22 f23 f24) := hD
        obtain ⟨ha_4, hp_4, hk_4, hT_4, hR_4⟩ : ((0 : Int32).toInt ≤ y5_4.toInt ∧ y5_4.toInt ≤ x2.toInt) ∧ (0 ≤ y6_4.toInt ∧ y6_4.toInt ≤ 300) ∧ (y7_4.toInt = 0 ∨ (0 : Int32).toInt < y5_4.toInt) ∧ (TokOK y7_4 y8_4) ∧ (∃ v9 : Int, TkR (sE f2 x2.toInt) (0 : Int32).toInt y7_4.toInt v9 y6_4.toInt y5_4.toInt ∧ (y7_4.toInt = 1 ∨ y7_4.toInt = 2 → y8_4.toInt = v9)) := hw
        have loop37 : ∀ (ddloop37 : Nat) (u : Int32) (a5 : Int32) (a6 : Int32) (a7 : Int32) (a8 : Int32) (a9 : Int32) (a10 : Int32) (a11 : Int32) (a12 : Int32) (a13 : Int32) (a14 : Int32) (q3 : (Nat → Int32)) (q4 : (Nat → Int32)) (q5 : (Nat → Int32)) (q6 : (Nat → Int32)) (q7 : (Nat → Int32)) (q8 : (Nat → Int32)) (q9 : (Nat → Int32)) (q10 : (Nat → Int32)) (q11 : (Nat → Int32)) (H : Heap) (locs : List Loc) (ls : Array Slot), (2 * (x2.toInt - a5.toInt) + (if a7.toInt = 0 then 0 else 1)).toNat < ddloop37 → (0 ≤ a5.toInt ∧ a5.toInt ≤ x2.toInt) → (TokOK a7 a8) → (FreshX jn q8 q9) → (FreshZ jn q8 q9) → (MK q11) → (FM q10) → (Hd (∃ (ic : Nat) (E : Env1) (F : Int → Int), TI1 P ks vs (Ev x0.toInt) f0 q8 q9 x0.toInt a5 a7 a8 ic E F)) → va_P D vwCl (mX mm q jn cI x0 x1 x2 x3 x4 a5 a6 a7 a8 a9 a10 a11 a12 a13 a14 x15 x16 x17 x18 x19 x20 f0 f1 f2 q3 q4 q5 q6 q7 q8 q9 q10 q11 f12 f13 f14 f15 f16 f17 f18 f19 f20 f21 f22 f23 f24) H → va_D A (mX mm q jn cI x0 x1 x2 x3 x4 a5 a6 a7 a8 a9 a10 a11 a12 a13 a14 x15 x16 x17 x18 x19 x20 f0 f1 f2 q3 q4 q5 q6 q7 q8 q9 q10 q11 f12 f13 f14 f15 f16 f17 f18 f19 f20 f21 f22 f23 f24) → va_S A s.heap H locs → lv_has ls 2 [(0, .ref mm), (1, .int u)] → W p l e ({ frames := 9, cells := 0, slots := 0, locals := 203 }) s m args below meth c H locs 0 0 Q (F0 m 37 ls []) := by
          intro ddloop37
          induction ddloop37 with
          | zero =>
            intro u a5 a6 a7 a8 a9 a10 a11 a12 a13 a14 q3 q4 q5 q6 q7 q8 q9 q10 q11 H locs ls hdd
            exact absurd hdd (Nat.not_lt_zero _)
          | succ ddloop37 ih37 =>
            intro u a5 a6 a7 a8 a9 a10 a11 a12 a13 a14 q3 q4 q5 q6 q7 q8 q9 q10 q11 H locs ls hdd hp hT hFr hFZ hM hFm hTI hP hD hS hl
            obtain ⟨ic, E, F, hJ⟩ := hTI
            have v2_ : a7.toInt = ks ic := hJ.2.1.2.1
            refine lv_aload_n hx hb dX11_readText_37 rfl (lv_at hl 0 rfl) ?_
            refine va_get (D := D) (ci := 11) (v := .int a7) (C := RX11) (T := TX11) (N := 47) hx hb hts (by decide +kernel) hown hK.1 hP 0 rfl rfl 11 (by decide) (hts (.fieldLink RX11 131 "JugglingHallModel" "token" "I") (by decide +kernel)) (fun _ h9 => h9) rfl dX11_readText_38 ?_
            refine a_if_eq (u := a7.toInt) (tgt := 98) hx hb dX11_readText_41 (by decide) (rfl) (fun c_5 => ?_) (fun c_5 => ?_)
            · refine lv_iconst (v := 0) hx hb dX11_readText_98 (by decide) ?_
              have hz_6 : (0 : Int32).toInt = 0 := by decide
              exact g_iret ((0 : Int32), a5, a6, a7, a8, a9, a10, a11, a12, a13, a14, q3, q4, q5, q6, q7, q8, q9, q10, q11) hx hb hr hlocks hS rfl (⟨show FreshX jn q8 q9 from (by first | assumption | omega), show FreshZ jn q8 q9 from (by first | assumption | omega), show MK q11 from (by first | assumption | omega), show FM q10 from (by first | assumption | omega), show Hd (((0 : Int32).toInt = 0 ∧ ∃ (i9 : Nat) (E9 : Env1) (F9 : Int → Int), TWel ks vs (0, Ev x0.toInt, fun _ => 0) (i9, E9, F9) ∧ EnvF f0 q8 q9 x0.toInt E9 ∧ EOk E9 ∧ TF1 q8 F9) ∨ ((0 : Int32).toInt ≠ 0 ∧ TFls ks vs (0, Ev x0.toInt, fun _ => 0))) from (Or.inl ⟨by omega, ic, E, F, ⟨hJ.1, by show ks ic = 0; omega⟩, hJ.2.2.1, hJ.2.2.2.1, hJ.2.2.2.2⟩)⟩) hP hD hQ (Nat.le_of_ble_eq_true rfl) (Nat.le_of_ble_eq_true rfl) dX11_readText_99
            · refine lv_aload_n hx hb dX11_readText_44 rfl (lv_at hl 0 rfl) ?_
              refine va_get (D := D) (ci := 11) (v := .int a7) (C := RX11) (T := TX11) (N := 47) hx hb hts (by decide +kernel) hown hK.1 hP 0 rfl rfl 11 (by decide) (hts (.fieldLink RX11 131 "JugglingHallModel" "token" "I") (by decide +kernel)) (fun _ h9 => h9) rfl dX11_readText_45 ?_
              refine lv_iconst (v := 5) hx hb dX11_readText_48 (by decide) ?_
              refine a_icmp_ne (u := a7.toInt) (v := 5) (tgt := 59) hx hb dX11_readText_49 (by decide) (rfl) (by decide) (fun c_7 => ?_) (fun c_7 => ?_)
              · refine lv_aload_n hx hb dX11_readText_59 rfl (lv_at hl 0 rfl) ?_
                refine va_get (D := D) (ci := 11) (v := .int a7) (C := RX11) (T := TX11) (N := 47) hx hb hts (by decide +kernel) hown hK.1 hP 0 rfl rfl 11 (by decide) (hts (.fieldLink RX11 131 "JugglingHallModel" "token" "I") (by decide +kernel)) (fun _ h9 => h9) rfl dX11_readText_60 ?_
                refine lv_bipush (v := 6) hx hb dX11_readText_63 (by decide) ?_
                refine a_icmp_ne (u := a7.toInt) (v := 6) (tgt := 75) hx hb dX11_readText_65 (by decide) (rfl) (by decide) (fun c_8 => ?_) (fun c_8 => ?_)
                · refine lv_aload_n hx hb dX11_readText_75 rfl (lv_at hl 0 rfl) ?_
                  refine lv_iconst (v := 1) hx hb dX11_readText_76 (by decide) ?_
                  refine lv_aload_n hx hb dX11_readText_77 rfl (lv_at hl 0 rfl) ?_
                  refine va_get (D := D) (ci := 11) (v := .int a6) (C := RX11) (T := TX11) (N := 47) hx hb hts (by decide +kernel) hown hK.1 hP 0 rfl rfl 10 (by decide) (hts (.fieldLink RX11 120 "JugglingHallModel" "place" "I") (by decide +kernel)) (fun _ h9 => h9) rfl dX11_readText_78 ?_
                  have hz_9 : (1 : Int32).toInt = 1 := by decide
                  refine call_g (wr := []) (va_runV (As := [.int 1, .int a6]) (rest := []) ⟨hx, hb, hml, hown, hts⟩ (k_fails l D cI cR cM _  ) (cwV 2 hts gX11_readText_X11_fails rfl rfl rfl (by decide +kernel) ⟨Nat.le_of_ble_eq_true rfl, Nat.le_of_ble_eq_true rfl⟩) (pre_V hK hP hD 0 11 rfl rfl) rfl rfl hl.1 rfl (lv_room (Nat.le_of_ble_eq_true rfl)) dX11_readText_81 ⟨Nat.le_of_ble_eq_true rfl, Nat.le_of_ble_eq_true rfl⟩) hP hD hS hA [0, 1, 2, 3, 4, 5, 6, 7, 8, 9, 10, 11, 12, 13, 14, 15, 16, 17, 18, 19, 20, 21, 22, 23, 24, 25] [] (by with_unfolding_all rfl) rfl (by decide) (by decide) (fun u_10 H locs hw hP hD hS => ?_)
                  obtain ⟨r_10, y9_10⟩ := u_10
                  have hP : va_P D vwCl (mX mm q jn cI x0 x1 x2 x3 x4 a5 a6 a7 a8 y9_10 a10 a11 a12 a13 a14 x15 x16 x17 x18 x19 x20 f0 f1 f2 q3 q4 q5 q6 q7 q8 q9 q10 q11 f12 f13 f14 f15 f16 f17 f18 f19 f20 f21 f22 f23 f24) H := hP
                  have hD : va_D A (mX mm q jn cI x0 x1 x2 x3 x4 a5 a6 a7 a8 y9_10 a10 a11 a12 a13 a14 x15 x16 x17 x18 x19 x20 f0 f1 f2 q3 q4 q5 q6 q7 q8 q9 q10 q11 f12 f13 f14 f15 f16 f17 f18 f19 f20 f21 f22 f23 f24) := hD
                  have hr_10 : (r_10.toInt = (1 : Int32).toInt) := hw
                  refine lv_istore_n (lv' := [(1, .int r_10), (0, .ref mm)]) hx hb dX11_readText_84 rfl hl (by decide) rfl (fun ls hl => ?_)
                  refine lv_iload_n hx hb dX11_readText_85 rfl (lv_at hl 0 rfl) ?_
                  refine a_if_eq (u := r_10.toInt) (tgt := 91) hx hb dX11_readText_86 (by decide) (rfl) (fun c_11 => ?_) (fun c_11 => ?_)
                  · refine lv_aload_n hx hb dX11_readText_91 rfl (lv_at hl 1 rfl) ?_
                    refine call_g (wr := []) (va_runV (As := []) (rest := []) ⟨hx, hb, hml, hown, hts⟩ (k_next2 l D cI cR cM _  (by first | assumption | omega) (by first | assumption | omega)) (cwV 0 hts gX11_readText_X11_nextToken rfl rfl rfl (by decide +kernel) ⟨Nat.le_of_ble_eq_true rfl, Nat.le_of_ble_eq_true rfl⟩) (pre_V hK hP hD 0 11 rfl rfl) rfl rfl hl.1 rfl (lv_room (Nat.le_of_ble_eq_true rfl)) dX11_readText_92 ⟨Nat.le_of_ble_eq_true rfl, Nat.le_of_ble_eq_true rfl⟩) hP hD hS hA [0, 1, 2, 3, 4, 5, 6, 7, 8, 9, 10, 11, 12, 13, 14, 15, 16, 17, 18, 19, 20, 21, 22, 23, 24, 25] [] (by with_unfolding_all rfl) rfl (by decide) (by decide) (fun u_12 H locs hw hP hD hS => ?_)
                    obtain ⟨y5_12, y6_12, y7_12, y8_12⟩ := u_12
                    have hP : va_P D vwCl (mX mm q jn cI x0 x1 x2 x3 x4 y5_12 y6_12 y7_12 y8_12 y9_10 a10 a11 a12 a13 a14 x15 x16 x17 x18 x19 x20 f0 f1 f2 q3 q4 q5 q6 q7 q8 q9 q10 q11 f12 f13 f14 f15 f16 f17 f18 f19 f20 f21 f22 f23 f24) H := hP
                    have hD : va_D A (mX mm q jn cI x0 x1 x2 x3 x4 y5_12 y6_12 y7_12 y8_12 y9_10 a10 a11 a12 a13 a14 x15 x16 x17 x18 x19 x20 f0 f1 f2 q3 q4 q5 q6 q7 q8 q9 q10 q11 f12 f13 f14 f15 f16 f17 f18 f19 f20 f21 f22 f23 f24) := hD
                    obtain ⟨ha_12, hp_12, hk_12, hT_12, hR_12⟩ : (a5.toInt ≤ y5_12.toInt ∧ y5_12.toInt ≤ x2.toInt) ∧ (0 ≤ y6_12.toInt ∧ y6_12.toInt ≤ 300) ∧ (y7_12.toInt = 0 ∨ a5.toInt < y5_12.toInt) ∧ (TokOK y7_12 y8_12) ∧ (∃ v9 : Int, TkR (sE f2 x2.toInt) a5.toInt y7_12.toInt v9 y6_12.toInt y5_12.toInt ∧ (y7_12.toInt = 1 ∨ y7_12.toInt = 2 → y8_12.toInt = v9)) := hw
                    refine lv_goto (tgt := 37) hx hb dX11_readText_95 (by decide) ?_
                    exact ih37 r_10 y5_12 y6_12 y7_12 y8_12 y9_10 a10 a11 a12 a13 a14 q3 q4 q5 q6 q7 q8 q9 q10 q11 _ _ _ (by omega) (by first | assumption | omega) (by first | assumption | omega) (by first | assumption | omega) (by first | assumption | omega) (by first | assumption | omega) (by first | assumption | omega) (by exfalso; omega) hP hD hS (lv_sub hl [1, 0] rfl)
                  · refine lv_iload_n hx hb dX11_readText_89 rfl (lv_at hl 0 rfl) ?_
                    exact g_iret (r_10, a5, a6, a7, a8, y9_10, a10, a11, a12, a13, a14, q3, q4, q5, q6, q7, q8, q9, q10, q11) hx hb hr hlocks hS rfl (⟨show FreshX jn q8 q9 from (by first | assumption | omega), show FreshZ jn q8 q9 from (by first | assumption | omega), show MK q11 from (by first | assumption | omega), show FM q10 from (by first | assumption | omega), show Hd ((r_10.toInt = 0 ∧ ∃ (i9 : Nat) (E9 : Env1) (F9 : Int → Int), TWel ks vs (0, Ev x0.toInt, fun _ => 0) (i9, E9, F9) ∧ EnvF f0 q8 q9 x0.toInt E9 ∧ EOk E9 ∧ TF1 q8 F9) ∨ (r_10.toInt ≠ 0 ∧ TFls ks vs (0, Ev x0.toInt, fun _ => 0))) from (Or.inr ⟨by omega, TF_tr hJ.1 (TF_0 (by omega) (by omega) (by omega))⟩)⟩) hP hD hQ (Nat.le_of_ble_eq_true rfl) (Nat.le_of_ble_eq_true rfl) dX11_readText_90
                · refine lv_aload_n hx hb dX11_readText_68 rfl (lv_at hl 0 rfl) ?_
                  refine call_g (wr := []) (va_runV (As := []) (rest := []) ⟨hx, hb, hml, hown, hts⟩ (k_seenClause3 l D cI cR cM _ (P := P) (ks := ks) (vs := vs) (i := ic) (E := E) (F := F) (by first | assumption | omega) (by first | assumption | omega) (by first | assumption | omega) (by first | assumption | omega) (by first | assumption | omega) (by first | assumption | omega) (by first | assumption | omega) (by first | assumption | omega) (hJ.2.1) (by omega) (hJ.2.2.1) (hJ.2.2.2.1) (hJ.2.2.2.2)) (cwV 0 hts gX11_readText_X11_seenClause rfl rfl rfl (by decide +kernel) ⟨Nat.le_of_ble_eq_true rfl, Nat.le_of_ble_eq_true rfl⟩) (pre_V hK hP hD 0 11 rfl rfl) rfl rfl hl.1 rfl (lv_room (Nat.le_of_ble_eq_true rfl)) dX11_readText_69 ⟨Nat.le_of_ble_eq_true rfl, Nat.le_of_ble_eq_true rfl⟩) hP hD hS hA [0, 1, 2, 3, 4, 5, 6, 7, 8, 9, 10, 11, 12, 13, 14, 15, 16, 17, 18, 19, 20, 21, 22, 23, 24, 25] [] (by with_unfolding_all rfl) rfl (by decide) (by decide) (fun u_13 H locs hw hP hD hS => ?_)
                  obtain ⟨r_13, y5_13, y6_13, y7_13, y8_13, y9_13, g10_13, g11_13⟩ := u_13
                  have hP : va_P D vwCl (mX mm q jn cI x0 x1 x2 x3 x4 y5_13 y6_13 y7_13 y8_13 y9_13 a10 a11 a12 a13 a14 x15 x16 x17 x18 x19 x20 f0 f1 f2 q3 q4 q5 q6 q7 q8 q9 g10_13 g11_13 f12 f13 f14 f15 f16 f17 f18 f19 f20 f21 f22 f23 f24) H := hP
                  have hD : va_D A (mX mm q jn cI x0 x1 x2 x3 x4 y5_13 y6_13 y7_13 y8_13 y9_13 a10 a11 a12 a13 a14 x15 x16 x17 x18 x19 x20 f0 f1 f2 q3 q4 q5 q6 q7 q8 q9 g10_13 g11_13 f12 f13 f14 f15 f16 f17 f18 f19 f20 f21 f22 f23 f24) := hD
                  obtain ⟨ha_13, hT_13, hM_13, hFm_13, hF_13⟩ : (a5.toInt ≤ y5_13.toInt ∧ y5_13.toInt ≤ x2.toInt) ∧ (TokOK y7_13 y8_13) ∧ (MK g11_13) ∧ (FM g10_13) ∧ (Hd ((r_13.toInt = 0 ∧ ClR P ks vs ic E F f0 q8 q9 x0.toInt y5_13 y7_13 y8_13) ∨ (r_13.toInt ≠ 0 ∧ TFls ks vs (ic, E, F)))) := hw
                  refine lv_goto (tgt := 84) hx hb dX11_readText_72 (by decide) ?_
                  refine lv_istore_n (lv' := [(1, .int r_13), (0, .ref mm)]) hx hb dX11_readText_84 rfl hl (by decide) rfl (fun ls hl => ?_)
                  refine lv_iload_n hx hb dX11_readText_85 rfl (lv_at hl 0 rfl) ?_
                  refine a_if_eq (u := r_13.toInt) (tgt := 91) hx hb dX11_readText_86 (by decide) (rfl) (fun c_14 => ?_) (fun c_14 => ?_)
                  · refine lv_aload_n hx hb dX11_readText_91 rfl (lv_at hl 1 rfl) ?_
                    refine call_g (wr := []) (va_runV (As := []) (rest := []) ⟨hx, hb, hml, hown, hts⟩ (k_next2 l D cI cR cM _  (by first | assumption | omega) (by first | assumption | omega)) (cwV 0 hts gX11_readText_X11_nextToken rfl rfl rfl (by decide +kernel) ⟨Nat.le_of_ble_eq_true rfl, Nat.le_of_ble_eq_true rfl⟩) (pre_V hK hP hD 0 11 rfl rfl) rfl rfl hl.1 rfl (lv_room (Nat.le_of_ble_eq_true rfl)) dX11_readText_92 ⟨Nat.le_of_ble_eq_true rfl, Nat.le_of_ble_eq_true rfl⟩) hP hD hS hA [0, 1, 2, 3, 4, 5, 6, 7, 8, 9, 10, 11, 12, 13, 14, 15, 16, 17, 18, 19, 20, 21, 22, 23, 24, 25] [] (by with_unfolding_all rfl) rfl (by decide) (by decide) (fun u_15 H locs hw hP hD hS => ?_)
                    obtain ⟨y5_15, y6_15, y7_15, y8_15⟩ := u_15
                    have hP : va_P D vwCl (mX mm q jn cI x0 x1 x2 x3 x4 y5_15 y6_15 y7_15 y8_15 y9_13 a10 a11 a12 a13 a14 x15 x16 x17 x18 x19 x20 f0 f1 f2 q3 q4 q5 q6 q7 q8 q9 g10_13 g11_13 f12 f13 f14 f15 f16 f17 f18 f19 f20 f21 f22 f23 f24) H := hP
                    have hD : va_D A (mX mm q jn cI x0 x1 x2 x3 x4 y5_15 y6_15 y7_15 y8_15 y9_13 a10 a11 a12 a13 a14 x15 x16 x17 x18 x19 x20 f0 f1 f2 q3 q4 q5 q6 q7 q8 q9 g10_13 g11_13 f12 f13 f14 f15 f16 f17 f18 f19 f20 f21 f22 f23 f24) := hD
                    obtain ⟨ha_15, hp_15, hk_15, hT_15, hR_15⟩ : (y5_13.toInt ≤ y5_15.toInt ∧ y5_15.toInt ≤ x2.toInt) ∧ (0 ≤ y6_15.toInt ∧ y6_15.toInt ≤ 300) ∧ (y7_15.toInt = 0 ∨ y5_13.toInt < y5_15.toInt) ∧ (TokOK y7_15 y8_15) ∧ (∃ v9 : Int, TkR (sE f2 x2.toInt) y5_13.toInt y7_15.toInt v9 y6_15.toInt y5_15.toInt ∧ (y7_15.toInt = 1 ∨ y7_15.toInt = 2 → y8_15.toInt = v9)) := hw
                    refine lv_goto (tgt := 37) hx hb dX11_readText_95 (by decide) ?_
                    exact ih37 r_13 y5_15 y6_15 y7_15 y8_15 y9_13 a10 a11 a12 a13 a14 q3 q4 q5 q6 q7 q8 q9 g10_13 g11_13 _ _ _ (by omega) (by first | assumption | omega) (by first | assumption | omega) (by first | assumption | omega) (by first | assumption | omega) (by first | assumption | omega) (by first | assumption | omega) (by
                      obtain ⟨v9, q1, q2⟩ := hR_15
                      exact TI1_n hJ hSM (or_T hF_13 (by omega)) ⟨v9, _, q1, q2⟩) hP hD hS (lv_sub hl [1, 0] rfl)
                  · refine lv_iload_n hx hb dX11_readText_89 rfl (lv_at hl 0 rfl) ?_
                    exact g_iret (r_13, y5_13, y6_13, y7_13, y8_13, y9_13, a10, a11, a12, a13, a14, q3, q4, q5, q6, q7, q8, q9, g10_13, g11_13) hx hb hr hlocks hS rfl (⟨show FreshX jn q8 q9 from (by first | assumption | omega), show FreshZ jn q8 q9 from (by first | assumption | omega), show MK g11_13 from (by first | assumption | omega), show FM g10_13 from (by first | assumption | omega), show Hd ((r_13.toInt = 0 ∧ ∃ (i9 : Nat) (E9 : Env1) (F9 : Int → Int), TWel ks vs (0, Ev x0.toInt, fun _ => 0) (i9, E9, F9) ∧ EnvF f0 q8 q9 x0.toInt E9 ∧ EOk E9 ∧ TF1 q8 F9) ∨ (r_13.toInt ≠ 0 ∧ TFls ks vs (0, Ev x0.toInt, fun _ => 0))) from (Or.inr ⟨by omega, TF_tr hJ.1 (or_F hF_13 (by omega))⟩)⟩) hP hD hQ (Nat.le_of_ble_eq_true rfl) (Nat.le_of_ble_eq_true rfl) dX11_readText_90
              · refine lv_aload_n hx hb dX11_readText_52 rfl (lv_at hl 0 rfl) ?_
                refine call_g (wr := []) (va_runV (As := []) (rest := []) ⟨hx, hb, hml, hown, hts⟩ (k_rowClause3 l D cI cR cM _ (P := P) (ks := ks) (vs := vs) (i := ic) (E := E) (F := F) (by first | assumption | omega) (by first | assumption | omega) (by first | assumption | omega) (by first | assumption | omega) (by first | assumption | omega) (by first | assumption | omega) (by first | assumption | omega) (by first | assumption | omega) (by first | assumption | omega) (by first | assumption | omega) (by first | assumption | omega) (hJ.2.1) (by omega) (hJ.2.2.1) (hJ.2.2.2.1) (hJ.2.2.2.2)) (cwV 0 hts gX11_readText_X11_rowClause rfl rfl rfl (by decide +kernel) ⟨Nat.le_of_ble_eq_true rfl, Nat.le_of_ble_eq_true rfl⟩) (pre_V hK hP hD 0 11 rfl rfl) rfl rfl hl.1 rfl (lv_room (Nat.le_of_ble_eq_true rfl)) dX11_readText_53 ⟨Nat.le_of_ble_eq_true rfl, Nat.le_of_ble_eq_true rfl⟩) hP hD hS hA [0, 1, 2, 3, 4, 5, 6, 7, 8, 9, 10, 11, 12, 13, 14, 15, 16, 17, 18, 19, 20, 21, 22, 23, 24, 25] [] (by with_unfolding_all rfl) rfl (by decide) (by decide) (fun u_16 H locs hw hP hD hS => ?_)
                obtain ⟨r_16, y5_16, y6_16, y7_16, y8_16, y9_16, y10_16, y11_16, y12_16, y13_16, y14_16, g3_16, g4_16, g5_16, g6_16, g7_16, g8_16, g9_16⟩ := u_16
                have hP : va_P D vwCl (mX mm q jn cI x0 x1 x2 x3 x4 y5_16 y6_16 y7_16 y8_16 y9_16 y10_16 y11_16 y12_16 y13_16 y14_16 x15 x16 x17 x18 x19 x20 f0 f1 f2 g3_16 g4_16 g5_16 g6_16 g7_16 g8_16 g9_16 q10 q11 f12 f13 f14 f15 f16 f17 f18 f19 f20 f21 f22 f23 f24) H := hP
                have hD : va_D A (mX mm q jn cI x0 x1 x2 x3 x4 y5_16 y6_16 y7_16 y8_16 y9_16 y10_16 y11_16 y12_16 y13_16 y14_16 x15 x16 x17 x18 x19 x20 f0 f1 f2 g3_16 g4_16 g5_16 g6_16 g7_16 g8_16 g9_16 q10 q11 f12 f13 f14 f15 f16 f17 f18 f19 f20 f21 f22 f23 f24) := hD
                obtain ⟨ha_16, hT_16, hFr_16, hFZ_16, hF_16⟩ : (a5.toInt ≤ y5_16.toInt ∧ y5_16.toInt ≤ x2.toInt) ∧ (TokOK y7_16 y8_16) ∧ (FreshX jn g8_16 g9_16) ∧ (FreshZ jn g8_16 g9_16) ∧ (Hd ((r_16.toInt = 0 ∧ ClR P ks vs ic E F f0 g8_16 g9_16 x0.toInt y5_16 y7_16 y8_16) ∨ (r_16.toInt ≠ 0 ∧ TFls ks vs (ic, E, F)))) := hw
                refine lv_goto (tgt := 84) hx hb dX11_readText_56 (by decide) ?_
                refine lv_istore_n (lv' := [(1, .int r_16), (0, .ref mm)]) hx hb dX11_readText_84 rfl hl (by decide) rfl (fun ls hl => ?_)
                refine lv_iload_n hx hb dX11_readText_85 rfl (lv_at hl 0 rfl) ?_
                refine a_if_eq (u := r_16.toInt) (tgt := 91) hx hb dX11_readText_86 (by decide) (rfl) (fun c_17 => ?_) (fun c_17 => ?_)
                · refine lv_aload_n hx hb dX11_readText_91 rfl (lv_at hl 1 rfl) ?_
                  refine call_g (wr := []) (va_runV (As := []) (rest := []) ⟨hx, hb, hml, hown, hts⟩ (k_next2 l D cI cR cM _  (by first | assumption | omega) (by first | assumption | omega)) (cwV 0 hts gX11_readText_X11_nextToken rfl rfl rfl (by decide +kernel) ⟨Nat.le_of_ble_eq_true rfl, Nat.le_of_ble_eq_true rfl⟩) (pre_V hK hP hD 0 11 rfl rfl) rfl rfl hl.1 rfl (lv_room (Nat.le_of_ble_eq_true rfl)) dX11_readText_92 ⟨Nat.le_of_ble_eq_true rfl, Nat.le_of_ble_eq_true rfl⟩) hP hD hS hA [0, 1, 2, 3, 4, 5, 6, 7, 8, 9, 10, 11, 12, 13, 14, 15, 16, 17, 18, 19, 20, 21, 22, 23, 24, 25] [] (by with_unfolding_all rfl) rfl (by decide) (by decide) (fun u_18 H locs hw hP hD hS => ?_)
                  obtain ⟨y5_18, y6_18, y7_18, y8_18⟩ := u_18
                  have hP : va_P D vwCl (mX mm q jn cI x0 x1 x2 x3 x4 y5_18 y6_18 y7_18 y8_18 y9_16 y10_16 y11_16 y12_16 y13_16 y14_16 x15 x16 x17 x18 x19 x20 f0 f1 f2 g3_16 g4_16 g5_16 g6_16 g7_16 g8_16 g9_16 q10 q11 f12 f13 f14 f15 f16 f17 f18 f19 f20 f21 f22 f23 f24) H := hP
                  have hD : va_D A (mX mm q jn cI x0 x1 x2 x3 x4 y5_18 y6_18 y7_18 y8_18 y9_16 y10_16 y11_16 y12_16 y13_16 y14_16 x15 x16 x17 x18 x19 x20 f0 f1 f2 g3_16 g4_16 g5_16 g6_16 g7_16 g8_16 g9_16 q10 q11 f12 f13 f14 f15 f16 f17 f18 f19 f20 f21 f22 f23 f24) := hD
                  obtain ⟨ha_18, hp_18, hk_18, hT_18, hR_18⟩ : (y5_16.toInt ≤ y5_18.toInt ∧ y5_18.toInt ≤ x2.toInt) ∧ (0 ≤ y6_18.toInt ∧ y6_18.toInt ≤ 300) ∧ (y7_18.toInt = 0 ∨ y5_16.toInt < y5_18.toInt) ∧ (TokOK y7_18 y8_18) ∧ (∃ v9 : Int, TkR (sE f2 x2.toInt) y5_16.toInt y7_18.toInt v9 y6_18.toInt y5_18.toInt ∧ (y7_18.toInt = 1 ∨ y7_18.toInt = 2 → y8_18.toInt = v9)) := hw
                  refine lv_goto (tgt := 37) hx hb dX11_readText_95 (by decide) ?_
                  exact ih37 r_16 y5_18 y6_18 y7_18 y8_18 y9_16 y10_16 y11_16 y12_16 y13_16 y14_16 g3_16 g4_16 g5_16 g6_16 g7_16 g8_16 g9_16 q10 q11 _ _ _ (by omega) (by first | assumption | omega) (by first | assumption | omega) (by first | assumption | omega) (by first | assumption | omega) (by first | assumption | omega) (by first | assumption | omega) (by
                    obtain ⟨v9, q1, q2⟩ := hR_18
                    exact TI1_n hJ hSM (or_T hF_16 (by omega)) ⟨v9, _, q1, q2⟩) hP hD hS (lv_sub hl [1, 0] rfl)
                · refine lv_iload_n hx hb dX11_readText_89 rfl (lv_at hl 0 rfl) ?_
                  exact g_iret (r_16, y5_16, y6_16, y7_16, y8_16, y9_16, y10_16, y11_16, y12_16, y13_16, y14_16, g3_16, g4_16, g5_16, g6_16, g7_16, g8_16, g9_16, q10, q11) hx hb hr hlocks hS rfl (⟨show FreshX jn g8_16 g9_16 from (by first | assumption | omega), show FreshZ jn g8_16 g9_16 from (by first | assumption | omega), show MK q11 from (by first | assumption | omega), show FM q10 from (by first | assumption | omega), show Hd ((r_16.toInt = 0 ∧ ∃ (i9 : Nat) (E9 : Env1) (F9 : Int → Int), TWel ks vs (0, Ev x0.toInt, fun _ => 0) (i9, E9, F9) ∧ EnvF f0 g8_16 g9_16 x0.toInt E9 ∧ EOk E9 ∧ TF1 g8_16 F9) ∨ (r_16.toInt ≠ 0 ∧ TFls ks vs (0, Ev x0.toInt, fun _ => 0))) from (Or.inr ⟨by omega, TF_tr hJ.1 (or_F hF_16 (by omega))⟩)⟩) hP hD hQ (Nat.le_of_ble_eq_true rfl) (Nat.le_of_ble_eq_true rfl) dX11_readText_90
        exact loop37 ((2 * (x2.toInt - y5_4.toInt) + (if y7_4.toInt = 0 then 0 else 1)).toNat + 1) lx y5_4 y6_4 y7_4 y8_4 x9 x10 x11 x12 x13 x14 f3 f4 f5 f6 f7 ga f9 g_2 f11 _ _ _ (by omega) (by first | assumption | omega) (by first | assumption | omega) (by first | assumption | omega) (by first | assumption | omega) (by first | assumption | omega) (by first | assumption | omega) (⟨0, _, _, RGo_rf, by
          obtain ⟨v9, q1, q2⟩ := hR_4
          exact clr_0 hSM q1 q2, env_0 hEv (by omega) (fun i9 h8 h9 => hga i9 h8 (by omega)), hEO, TF1_0 (fun i9 h8 h9 => hga i9 h8 (by omega))⟩) hP hD hS (lv_sub hl [0, 1] rfl)
      · refine lv_aload_n hx hb dX11_readText_8 rfl (lv_at hl 0 rfl) ?_
        refine va_get (D := D) (ci := 11) (v := .ref (q 8)) (C := RX11) (T := TX11) (N := 47) hx hb hts (by decide +kernel) hown hK.1 hP 0 rfl rfl 22 (by decide) (hts (.fieldLink RX11 42 "JugglingHallModel" "freshMany" "[I") (by decide +kernel)) (fun _ h9 => h9) rfl dX11_readText_9 ?_
        refine lv_iload_n hx hb dX11_readText_12 rfl (lv_at hl 1 rfl) ?_
        refine lv_iconst (v := 0) hx hb dX11_readText_13 (by decide) ?_
        refine ma_8 (u := lx.toInt) hx hb hK hP hD hS dX11_readText_14 (rfl) (by omega) (fun g_19 H locs eg_19 hP hD hS => ?_)
        obtain ⟨z_20, q_20, e_20⟩ := i_inc (a := lx.toInt) (1) (rfl) (by decide) (by omega) (by omega)
        refine lv_iinc (v := z_20) (lv' := [(1, .int z_20), (0, .ref mm)]) hx hb dX11_readText_15 hl (k := 1) rfl q_20 (by decide) rfl (fun ls hl => ?_)
        refine lv_goto (tgt := 2) hx hb dX11_readText_18 (by decide) ?_
        exact ih2 z_20 g_19 _ _ _ (by omega) (by first | assumption | omega) (fun i i0 i1 => by
          by_cases q : i = lx.toInt
          · rw [eg_19, q, show lx.toInt = lx.toInt by omega, pk_us]; rfl
          · rw [eg_19, un_i (by omega) (by omega) (by omega)]; exact hga i i0 (by omega)) hP hD hS (lv_sub hl [1, 0] rfl)
  have hz_21 : (0 : Int32).toInt = 0 := by decide
  exact loop2 ((8 - (0 : Int32).toInt).toNat + 1) (0 : Int32) f8 _ _ _ (by omega) (by first | assumption | omega) (fun i i0 i1 => absurd i1 (by omega)) hP hD hS (lv_sub hl [1, 0] rfl)
