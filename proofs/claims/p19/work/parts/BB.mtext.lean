theorem LatV_tr {R R2 : Nat → Int32} {l t r : Int} (h : LatV R2 l t r) (e : ∀ u : Int, 1 ≤ u → u ≤ t → R2 (150 * (8 * u + l)).toNat = R (150 * (8 * u + l)).toNat) : LatV R l t r := by
  rcases h with ⟨h1, h2⟩ | ⟨u, u1, u2, u3, u4, u5⟩
  · exact Or.inl ⟨h1, fun u u1 u2 => by rw [← e u u1 u2]; exact h2 u u1 u2⟩
  · refine Or.inr ⟨u, u1, u2, u3, ?_, fun v v1 v2 => by rw [← e v (by omega) v2]; exact u5 v v1 v2⟩
    rw [u3] at u4 ⊢
    rw [← e u u1 u2]; exact u4
theorem LatV_b {R : Nat → Int32} {l t r : Int} (h : LatV R l t r) (hr : 0 ≤ r) : ∃ u : Int, 1 ≤ u ∧ u ≤ t ∧ r = 150 * (8 * u + l) := by
  rcases h with ⟨h1, _⟩ | ⟨u, u1, u2, u3, _⟩
  · omega
  · exact ⟨u, u1, u2, u3⟩
theorem LatV_up {R : Nat → Int32} {l t r : Int} (h : LatV R l (t + 1) r) (hz : (R (150 * (8 * (t + 1) + l)).toNat).toInt ≤ 0) : LatV R l t r := by
  rcases h with ⟨h1, h2⟩ | ⟨u, u1, u2, u3, u4, u5⟩
  · exact Or.inl ⟨h1, fun u u1 u2 => h2 u u1 (by omega)⟩
  · refine Or.inr ⟨u, u1, ?_, u3, u4, fun v v1 v2 => u5 v v1 (by omega)⟩
    rcases (show u = t + 1 ∨ u ≤ t by omega) with q | q
    · rw [u3, q] at u4; omega
    · exact q
theorem LatV_now {R : Nat → Int32} {l t r : Int} (h : LatV R l (t + 1) r) (ht : 0 ≤ t) (hz : 0 < (R (150 * (8 * (t + 1) + l)).toNat).toInt) : r = 150 * (8 * (t + 1) + l) := LatV_u h (Or.inr ⟨t + 1, by omega, by omega, rfl, hz, fun v v1 v2 => absurd v2 (by omega)⟩)
theorem RSo_eq {F G : Nat → Int32} {a : Int} {w : Int → Int} {m : Int} (h : RSo F a w m) (hm : m ≤ 24) (e : ∀ i : Int, a ≤ i → i < a + 144 → G i.toNat = F i.toNat) : RSo G a w m := fun c c0 c1 => by rw [e _ (by omega) (by omega)]; exact h c c0 c1
/-- a page more -/
def evp (Ev : Int → Env1) (T : Int) (E : Env1) : Int → Env1 := fun t => if t = T then E else Ev t
theorem ev_s {Ev : Int → Env1} {T : Int} {E : Env1} : evp Ev T E T = E := if_pos rfl
theorem ev_n {Ev : Int → Env1} {T t : Int} {E : Env1} (h : t ≠ T) : evp Ev T E t = Ev t := if_neg h
theorem ref_old {R R2 : Nat → Int32} {T : Int} {Ev : Int → Env1} {E : Env1} (h : RefR R T Ev) (hO : ∀ t : Int, 0 ≤ t → t ≤ T → EOk (Ev t)) (hu : ∀ i : Int, 0 ≤ i → i < 150 * (8 * (T + 1)) → R2 i.toNat = R i.toNat)
    (hn : ∀ l : Int, 0 ≤ l → l < 8 → ∀ r : Int, LatV R2 l (T + 1) r → (r = -1 → (E l).1 = 0) ∧ (0 ≤ r → (E l).1 = (R2 r.toNat).toInt ∧ RSo R2 (r + 1) (E l).2 (E l).1)) : RefR R2 (T + 1) (evp Ev (T + 1) E) := by
  intro t l t0 t1 l0 l1 r hr
  by_cases e : t = T + 1
  · rw [e, ev_s]; rw [e] at hr; exact hn l l0 l1 r hr
  · rw [ev_n e]
    have hr2 := LatV_tr (R := R) hr (fun u u1 u2 => hu _ (by omega) (by omega))
    obtain ⟨a1, a2⟩ := h t l t0 (by omega) l0 l1 r hr2
    refine ⟨a1, fun r0 => ?_⟩
    obtain ⟨b1, b2⟩ := a2 r0
    obtain ⟨u, u1, u2, u3⟩ := LatV_b hr2 r0
    rw [hu r (by omega) (by omega)]
    exact ⟨b1, RSo_eq b2 (hO t t0 (by omega) l l0 l1).2.1 (fun i i0 i1 => hu i (by omega) (by omega))⟩
theorem ref_text {R R2 M C : Nat → Int32} {T : Int} {Ev : Int → Env1} {E : Env1} (h : RefR R T Ev) (hT : 0 ≤ T) (hO : ∀ t : Int, 0 ≤ t → t ≤ T → EOk (Ev t)) (hE : EnvF R M C T E) (hEO : EOk E) (hb : ∀ k : Int, 0 ≤ k → k < 8 → 0 ≤ (M k.toNat).toInt ∧ (M k.toNat).toInt ≤ 24) (hu : ∀ i : Int, 0 ≤ i → i < 150 * (8 * (T + 1)) → R2 i.toNat = R i.toNat)
    (hd : ∀ k : Int, 0 ≤ k → k < 8 → R2 (150 * (8 * (T + 1) + k)).toNat = M k.toNat ∧ ∀ i : Int, 0 ≤ i → i < 6 * (M k.toNat).toInt → R2 (150 * (8 * (T + 1) + k) + 1 + i).toNat = C (144 * k + i).toNat) : RefR R2 (T + 1) (evp Ev (T + 1) E) := by
  refine ref_old h hO hu (fun l l0 l1 r hr => ?_)
  obtain ⟨d1, d2⟩ := hd l l0 l1
  obtain ⟨e1, e2⟩ := hE l l0 l1
  have hbl := hb l l0 l1
  by_cases q : 0 < (M l.toNat).toInt
  · obtain ⟨f1, f2⟩ := e1 q
    have hrr := LatV_now hr hT (by rw [d1]; exact q)
    refine ⟨fun q2 => absurd q2 (by omega), fun _ => ⟨by rw [hrr, d1]; exact f1, fun c c0 c1 => ?_⟩⟩
    rw [hrr, d2 _ (by omega) (by omega)]
    exact f2 c c0 c1
  · have hr2 := LatV_tr (R := R) (LatV_up hr (by rw [d1]; omega)) (fun u u1 u2 => hu _ (by omega) (by omega))
    obtain ⟨a1, a2⟩ := e2 (by omega) r hr2
    refine ⟨a1, fun r0 => ?_⟩
    obtain ⟨b1, b2⟩ := a2 r0
    obtain ⟨u, u1, u2, u3⟩ := LatV_b hr2 r0
    rw [hu r (by omega) (by omega)]
    exact ⟨b1, RSo_eq b2 (hEO l l0 l1).2.1 (fun i i0 i1 => hu i (by omega) (by omega))⟩
set_option maxRecDepth 100000 in
set_option maxHeartbeats 4000000 in
theorem k_text3 (l : Launch) (D : va_G) (cI cR cM : ClassId) (sz : Nat) {jn mm : Nat} {q : Nat → Nat} {x0 x1 x2 x3 x4 x5 x6 x7 x8 x9 x10 x11 x12 x13 x14 x15 x16 x17 x18 x19 x20 : Int32} {f0 f1 f2 f3 f4 f5 f6 f7 f8 f9 f10 f11 f12 f13 f14 f15 f16 f17 f18 f19 f20 f21 f22 f23 f24 : Nat → Int32} {P ks vs : Nat → Int} {Ev : Int → Env1} (ht : 0 ≤ x2.toInt ∧ x2.toInt ≤ 300) (hj : 1 ≤ jn ∧ jn ≤ 3) (h0 : 0 ≤ x0.toInt ∧ x0.toInt ≤ 60) (hR : RowsX jn f0) (hRZ : RowsZ jn f0) (hSe : SeenX f1) (hM : MK f11) (hFm : FM f10) (h1 : 0 ≤ x1.toInt ∧ x1.toInt ≤ x0.toInt) (hj1 : jn = 1) (hSM : SM (sE f2 x2.toInt) P ks vs) (hEv : RefR f0 x0.toInt Ev) (hEO : ∀ t9 : Int, 0 ≤ t9 → t9 ≤ x0.toInt → EOk (Ev t9)) : Met l yX11_text wsX11_text ({ frames := 10, cells := 0, slots := 0, locals := 224 }) (P0 D cI cR cM [.ref mm] sz (mX mm q jn cI x0 x1 x2 x3 x4 x5 x6 x7 x8 x9 x10 x11 x12 x13 x14 x15 x16 x17 x18 x19 x20 f0 f1 f2 f3 f4 f5 f6 f7 f8 f9 f10 f11 f12 f13 f14 f15 f16 f17 f18 f19 f20 f21 f22 f23 f24)) (QG (S := Int32 × Int32 × Int32 × Int32 × Int32 × Int32 × Int32 × Int32 × Int32 × Int32 × Int32 × Int32 × Int32 × Int32 × Int32 × Int32 × (Nat → Int32) × (Nat → Int32) × (Nat → Int32) × (Nat → Int32) × (Nat → Int32) × (Nat → Int32) × (Nat → Int32) × (Nat → Int32) × (Nat → Int32) × (Nat → Int32) × (Nat → Int32)) (fun u => some (.int u.1)) (fun u => mX mm q jn cI (u.2.1) (u.2.2.1) (u.2.2.2.1) (u.2.2.2.2.1) (u.2.2.2.2.2.1) (u.2.2.2.2.2.2.1) (u.2.2.2.2.2.2.2.1) (u.2.2.2.2.2.2.2.2.1) (u.2.2.2.2.2.2.2.2.2.1) (u.2.2.2.2.2.2.2.2.2.2.1) (u.2.2.2.2.2.2.2.2.2.2.2.1) (u.2.2.2.2.2.2.2.2.2.2.2.2.1) (u.2.2.2.2.2.2.2.2.2.2.2.2.2.1) (u.2.2.2.2.2.2.2.2.2.2.2.2.2.2.1) (u.2.2.2.2.2.2.2.2.2.2.2.2.2.2.2.1) x15 x16 x17 x18 x19 x20 (u.2.2.2.2.2.2.2.2.2.2.2.2.2.2.2.2.1) (u.2.2.2.2.2.2.2.2.2.2.2.2.2.2.2.2.2.1) f2 (u.2.2.2.2.2.2.2.2.2.2.2.2.2.2.2.2.2.2.1) (u.2.2.2.2.2.2.2.2.2.2.2.2.2.2.2.2.2.2.2.1) (u.2.2.2.2.2.2.2.2.2.2.2.2.2.2.2.2.2.2.2.2.1) (u.2.2.2.2.2.2.2.2.2.2.2.2.2.2.2.2.2.2.2.2.2.1) (u.2.2.2.2.2.2.2.2.2.2.2.2.2.2.2.2.2.2.2.2.2.2.1) (u.2.2.2.2.2.2.2.2.2.2.2.2.2.2.2.2.2.2.2.2.2.2.2.1) (u.2.2.2.2.2.2.2.2.2.2.2.2.2.2.2.2.2.2.2.2.2.2.2.2.1) (u.2.2.2.2.2.2.2.2.2.2.2.2.2.2.2.2.2.2.2.2.2.2.2.2.2.1) (u.2.2.2.2.2.2.2.2.2.2.2.2.2.2.2.2.2.2.2.2.2.2.2.2.2.2) f12 f13 f14 f15 f16 f17 f18 f19 f20 f21 f22 f23 f24) (fun u => (0 ≤ u.2.1.toInt ∧ u.2.1.toInt ≤ 60) ∧ (0 ≤ u.2.2.2.1.toInt ∧ u.2.2.2.1.toInt ≤ 300) ∧ (RowsX jn u.2.2.2.2.2.2.2.2.2.2.2.2.2.2.2.2.1) ∧ (RowsZ jn u.2.2.2.2.2.2.2.2.2.2.2.2.2.2.2.2.1) ∧ (SeenX u.2.2.2.2.2.2.2.2.2.2.2.2.2.2.2.2.2.1) ∧ (MK u.2.2.2.2.2.2.2.2.2.2.2.2.2.2.2.2.2.2.2.2.2.2.2.2.2.2) ∧ (FM u.2.2.2.2.2.2.2.2.2.2.2.2.2.2.2.2.2.2.2.2.2.2.2.2.2.1) ∧ (0 ≤ u.2.2.1.toInt ∧ u.2.2.1.toInt ≤ u.2.1.toInt) ∧ (Hd ((x0.toInt = 60 ∧ u.1.toInt = -1 ∧ u.2.1 = x0 ∧ u.2.2.1 = x1 ∧ u.2.2.2.1 = x2 ∧ u.2.2.2.2.2.2.2.2.2.2.2.2.2.2.2.2.1 = f0) ∨ (x0.toInt < 60 ∧ u.2.2.2.1.toInt = 0 ∧ u.2.1 = x0 ∧ u.2.2.1 = x1 ∧ u.2.2.2.2.2.2.2.2.2.2.2.2.2.2.2.2.1 = f0 ∧ TFls ks vs (0, Ev x0.toInt, fun _ => 0)) ∨ (x0.toInt < 60 ∧ u.2.2.2.1.toInt = 0 ∧ u.2.1.toInt = x0.toInt + 1 ∧ u.2.2.1 = u.2.1 ∧ ∃ (i9 : Nat) (E9 : Env1) (F9 : Int → Int), TWel ks vs (0, Ev x0.toInt, fun _ => 0) (i9, E9, F9) ∧ RefR u.2.2.2.2.2.2.2.2.2.2.2.2.2.2.2.2.1 (x0.toInt + 1) (evp Ev (x0.toInt + 1) E9) ∧ EOk E9 ∧ ∀ i9 : Int, 150 * (8 * (x0.toInt + 2)) ≤ i9 → u.2.2.2.2.2.2.2.2.2.2.2.2.2.2.2.2.1 i9.toNat = f0 i9.toNat)))) D (va_A (mX mm q jn cI x0 x1 x2 x3 x4 x5 x6 x7 x8 x9 x10 x11 x12 x13 x14 x15 x16 x17 x18 x19 x20 f0 f1 f2 f3 f4 f5 f6 f7 f8 f9 f10 f11 f12 f13 f14 f15 f16 f17 f18 f19 f20 f21 f22 f23 f24) sz)) 0 0 (va_A (mX mm q jn cI x0 x1 x2 x3 x4 x5 x6 x7 x8 x9 x10 x11 x12 x13 x14 x15 x16 x17 x18 x19 x20 f0 f1 f2 f3 f4 f5 f6 f7 f8 f9 f10 f11 f12 f13 f14 f15 f16 f17 f18 f19 f20 f21 f22 f23 f24) sz) := by
  refine go (cc := cX11_text) (maxL := 4) (ret := (some .int)) (by decide) rfl (Nat.le_of_ble_eq_true rfl) ?_
  intro p e s m below meth c ls args Q hQ hsz hx hb hr hml hts hown hlocks hnm hP hK hD hl
  subst hsz
  have hD := hD.self (sz := s.heap.size)
  generalize hAe : va_A (mX mm q jn cI x0 x1 x2 x3 x4 x5 x6 x7 x8 x9 x10 x11 x12 x13 x14 x15 x16 x17 x18 x19 x20 f0 f1 f2 f3 f4 f5 f6 f7 f8 f9 f10 f11 f12 f13 f14 f15 f16 f17 f18 f19 f20 f21 f22 f23 f24) s.heap.size = A at hD hQ
  have hA : ∀ q, s.heap.size ≤ q → A q := fun q h => by rw [← hAe]; exact Or.inr h
  have hS : va_S A s.heap s.heap [] := va_S.rf
  have hl : lv_has ls 4 [(0, .ref mm)] := hl
  refine lv_aload_n hx hb dX11_text_0 rfl (lv_at hl 0 rfl) ?_
  refine va_get (D := D) (ci := 11) (v := .int x0) (C := RX11) (T := TX11) (N := 47) hx hb hts (by decide +kernel) hown hK.1 hP 0 rfl rfl 3 (by decide) (hts (.fieldLink RX11 185 "JugglingHallModel" "time" "I") (by decide +kernel)) (fun _ h9 => h9) rfl dX11_text_1 ?_
  refine lv_bipush (v := 60) hx hb dX11_text_4 (by decide) ?_
  refine a_icmp_ne (u := x0.toInt) (v := 60) (tgt := 11) hx hb dX11_text_6 (by decide) (rfl) (by decide) (fun c_1 => ?_) (fun c_1 => ?_)
  · refine lv_aload_n hx hb dX11_text_11 rfl (lv_at hl 0 rfl) ?_
    refine lv_aload_n hx hb dX11_text_12 rfl (lv_at hl 0 rfl) ?_
    refine call_g (wr := []) (va_runV (As := []) (rest := [.ref mm]) ⟨hx, hb, hml, hown, hts⟩ (k_readText3 l D cI cR cM _ (P := P) (ks := ks) (vs := vs) (Ev := Ev) (by first | assumption | omega) (by first | assumption | omega) (by first | assumption | omega) (by first | assumption | omega) (by first | assumption | omega) (by first | assumption | omega) (by first | assumption | omega) (by first | assumption | omega) (by first | assumption | omega) (by first | assumption | omega) (hEO _ (by omega) (Int.le_refl _))) (cwV 0 hts gX11_text_X11_readText rfl rfl rfl (by decide +kernel) ⟨Nat.le_of_ble_eq_true rfl, Nat.le_of_ble_eq_true rfl⟩) (pre_V hK hP hD 0 11 rfl rfl) rfl rfl hl.1 rfl (lv_room (Nat.le_of_ble_eq_true rfl)) dX11_text_13 ⟨Nat.le_of_ble_eq_true rfl, Nat.le_of_ble_eq_true rfl⟩) hP hD hS hA [0, 1, 2, 3, 4, 5, 6, 7, 8, 9, 10, 11, 12, 13, 14, 15, 16, 17, 18, 19, 20, 21, 22, 23, 24, 25] [] (by with_unfolding_all rfl) rfl (by decide) (by decide) (fun u_2 H locs hw hP hD hS => ?_)
    obtain ⟨r_2, y5_2, y6_2, y7_2, y8_2, y9_2, y10_2, y11_2, y12_2, y13_2, y14_2, g3_2, g4_2, g5_2, g6_2, g7_2, g8_2, g9_2, g10_2, g11_2⟩ := u_2
    have hP : va_P D vwCl (mX mm q jn cI x0 x1 x2 x3 x4 y5_2 y6_2 y7_2 y8_2 y9_2 y10_2 y11_2 y12_2 y13_2 y14_2 x15 x16 x17 x18 x19 x20 f0 f1 f2 g3_2 g4_2 g5_2 g6_2 g7_2 g8_2 g9_2 g10_2 g11_2 f12 f13 f14 f15 f16 f17 f18 f19 f20 f21 f22 f23 f24) H := hP
    have hD : va_D A (mX mm q jn cI x0 x1 x2 x3 x4 y5_2 y6_2 y7_2 y8_2 y9_2 y10_2 y11_2 y12_2 y13_2 y14_2 x15 x16 x17 x18 x19 x20 f0 f1 f2 g3_2 g4_2 g5_2 g6_2 g7_2 g8_2 g9_2 g10_2 g11_2 f12 f13 f14 f15 f16 f17 f18 f19 f20 f21 f22 f23 f24) := hD
    obtain ⟨hFr_2, hFZ_2, hM_2, hFm_2, hF_2⟩ : (FreshX jn g8_2 g9_2) ∧ (FreshZ jn g8_2 g9_2) ∧ (MK g11_2) ∧ (FM g10_2) ∧ (Hd ((r_2.toInt = 0 ∧ ∃ (i9 : Nat) (E9 : Env1) (F9 : Int → Int), TWel ks vs (0, Ev x0.toInt, fun _ => 0) (i9, E9, F9) ∧ EnvF f0 g8_2 g9_2 x0.toInt E9 ∧ EOk E9 ∧ TF1 g8_2 F9) ∨ (r_2.toInt ≠ 0 ∧ TFls ks vs (0, Ev x0.toInt, fun _ => 0)))) := hw
    refine mp_3 hx hb hts (by decide +kernel) hown hK hP hD hS (hts (.fieldLink RX11 20 "JugglingHallModel" "fault" "I") (by decide +kernel)) dX11_text_16 (fun H locs hP hD hS => ?_)
    refine lv_aload_n hx hb dX11_text_19 rfl (lv_at hl 0 rfl) ?_
    refine lv_aload_n hx hb dX11_text_20 rfl (lv_at hl 0 rfl) ?_
    refine va_get (D := D) (ci := 11) (v := .int r_2) (C := RX11) (T := TX11) (N := 47) hx hb hts (by decide +kernel) hown hK.1 hP 0 rfl rfl 7 (by decide) (hts (.fieldLink RX11 20 "JugglingHallModel" "fault" "I") (by decide +kernel)) (fun _ h9 => h9) rfl dX11_text_21 ?_
    refine a_if_ne (u := r_2.toInt) (tgt := 31) hx hb dX11_text_24 (by decide) (rfl) (fun c_3 => ?_) (fun c_3 => ?_)
    · refine lv_aload_n hx hb dX11_text_31 rfl (lv_at hl 0 rfl) ?_
      refine va_get (D := D) (ci := 11) (v := .int y9_2) (C := RX11) (T := TX11) (N := 47) hx hb hts (by decide +kernel) hown hK.1 hP 0 rfl rfl 13 (by decide) (hts (.fieldLink RX11 148 "JugglingHallModel" "errorAt" "I") (by decide +kernel)) (fun _ h9 => h9) rfl dX11_text_32 ?_
      refine mp_4 hx hb hts (by decide +kernel) hown hK hP hD hS (hts (.fieldLink RX11 24 "JugglingHallModel" "faultPlace" "I") (by decide +kernel)) dX11_text_35 (fun H locs hP hD hS => ?_)
      refine lv_aload_n hx hb dX11_text_38 rfl (lv_at hl 0 rfl) ?_
      refine lv_iconst (v := 0) hx hb dX11_text_39 (by decide) ?_
      refine mp_2 hx hb hts (by decide +kernel) hown hK hP hD hS (hts (.fieldLink RX11 110 "JugglingHallModel" "taped" "I") (by decide +kernel)) dX11_text_40 (fun H locs hP hD hS => ?_)
      refine lv_aload_n hx hb dX11_text_43 rfl (lv_at hl 0 rfl) ?_
      refine va_get (D := D) (ci := 11) (v := .int r_2) (C := RX11) (T := TX11) (N := 47) hx hb hts (by decide +kernel) hown hK.1 hP 0 rfl rfl 7 (by decide) (hts (.fieldLink RX11 20 "JugglingHallModel" "fault" "I") (by decide +kernel)) (fun _ h9 => h9) rfl dX11_text_44 ?_
      refine a_if_eq (u := r_2.toInt) (tgt := 52) hx hb dX11_text_47 (by decide) (rfl) (fun c_4 => absurd c_4 (by omega)) (fun c_4 => ?_)
      refine lv_iconst (v := (-1)) hx hb dX11_text_50 (by decide) ?_
      have hz_5 : (-1 : Int32).toInt = (-1) := by decide
      have hz_6 : (0 : Int32).toInt = 0 := by decide
      exact g_iret ((-1 : Int32), x0, x1, (0 : Int32), r_2, y9_2, y5_2, y6_2, y7_2, y8_2, y9_2, y10_2, y11_2, y12_2, y13_2, y14_2, f0, f1, g3_2, g4_2, g5_2, g6_2, g7_2, g8_2, g9_2, g10_2, g11_2) hx hb hr hlocks hS rfl (⟨show 0 ≤ x0.toInt ∧ x0.toInt ≤ 60 from (by first | assumption | omega), show 0 ≤ (0 : Int32).toInt ∧ (0 : Int32).toInt ≤ 300 from (by first | assumption | omega), show RowsX jn f0 from (by first | assumption | omega), show RowsZ jn f0 from (by first | assumption | omega), show SeenX f1 from (by first | assumption | omega), show MK g11_2 from (by first | assumption | omega), show FM g10_2 from (by first | assumption | omega), show 0 ≤ x1.toInt ∧ x1.toInt ≤ x0.toInt from (by first | assumption | omega), show Hd ((x0.toInt = 60 ∧ (-1 : Int32).toInt = -1 ∧ x0 = x0 ∧ x1 = x1 ∧ (0 : Int32) = x2 ∧ f0 = f0) ∨ (x0.toInt < 60 ∧ (0 : Int32).toInt = 0 ∧ x0 = x0 ∧ x1 = x1 ∧ f0 = f0 ∧ TFls ks vs (0, Ev x0.toInt, fun _ => 0)) ∨ (x0.toInt < 60 ∧ (0 : Int32).toInt = 0 ∧ x0.toInt = x0.toInt + 1 ∧ x1 = x0 ∧ ∃ (i9 : Nat) (E9 : Env1) (F9 : Int → Int), TWel ks vs (0, Ev x0.toInt, fun _ => 0) (i9, E9, F9) ∧ RefR f0 (x0.toInt + 1) (evp Ev (x0.toInt + 1) E9) ∧ EOk E9 ∧ ∀ i9 : Int, 150 * (8 * (x0.toInt + 2)) ≤ i9 → f0 i9.toNat = f0 i9.toNat)) from (Or.inr (Or.inl ⟨by omega, by decide, rfl, rfl, rfl, or_F hF_2 (by omega)⟩))⟩) hP hD hQ (Nat.le_of_ble_eq_true rfl) (Nat.le_of_ble_eq_true rfl) dX11_text_51
    · refine lv_iconst (v := (-1)) hx hb dX11_text_27 (by decide) ?_
      refine lv_goto (tgt := 35) hx hb dX11_text_28 (by decide) ?_
      refine mp_4 hx hb hts (by decide +kernel) hown hK hP hD hS (hts (.fieldLink RX11 24 "JugglingHallModel" "faultPlace" "I") (by decide +kernel)) dX11_text_35 (fun H locs hP hD hS => ?_)
      refine lv_aload_n hx hb dX11_text_38 rfl (lv_at hl 0 rfl) ?_
      refine lv_iconst (v := 0) hx hb dX11_text_39 (by decide) ?_
      refine mp_2 hx hb hts (by decide +kernel) hown hK hP hD hS (hts (.fieldLink RX11 110 "JugglingHallModel" "taped" "I") (by decide +kernel)) dX11_text_40 (fun H locs hP hD hS => ?_)
      refine lv_aload_n hx hb dX11_text_43 rfl (lv_at hl 0 rfl) ?_
      refine va_get (D := D) (ci := 11) (v := .int r_2) (C := RX11) (T := TX11) (N := 47) hx hb hts (by decide +kernel) hown hK.1 hP 0 rfl rfl 7 (by decide) (hts (.fieldLink RX11 20 "JugglingHallModel" "fault" "I") (by decide +kernel)) (fun _ h9 => h9) rfl dX11_text_44 ?_
      refine a_if_eq (u := r_2.toInt) (tgt := 52) hx hb dX11_text_47 (by decide) (rfl) (fun c_7 => ?_) (fun c_7 => absurd c_7 (by omega))
      refine lv_aload_n hx hb dX11_text_52 rfl (lv_at hl 0 rfl) ?_
      refine lv_dup hx hb dX11_text_53 rfl ?_
      refine va_get (D := D) (ci := 11) (v := .int x0) (C := RX11) (T := TX11) (N := 47) hx hb hts (by decide +kernel) hown hK.1 hP 0 rfl rfl 3 (by decide) (hts (.fieldLink RX11 185 "JugglingHallModel" "time" "I") (by decide +kernel)) (fun _ h9 => h9) rfl dX11_text_54 ?_
      refine lv_iconst (v := 1) hx hb dX11_text_57 (by decide) ?_
      refine a_iadd (u := x0.toInt) (v := 1) hx hb dX11_text_58 (rfl) (by decide) (by omega) (fun z_8 e_8 => ?_)
      refine mp_0 hx hb hts (by decide +kernel) hown hK hP hD hS (hts (.fieldLink RX11 185 "JugglingHallModel" "time" "I") (by decide +kernel)) dX11_text_59 (fun H locs hP hD hS => ?_)
      refine lv_aload_n hx hb dX11_text_62 rfl (lv_at hl 0 rfl) ?_
      refine lv_aload_n hx hb dX11_text_63 rfl (lv_at hl 0 rfl) ?_
      refine va_get (D := D) (ci := 11) (v := .int z_8) (C := RX11) (T := TX11) (N := 47) hx hb hts (by decide +kernel) hown hK.1 hP 0 rfl rfl 3 (by decide) (hts (.fieldLink RX11 185 "JugglingHallModel" "time" "I") (by decide +kernel)) (fun _ h9 => h9) rfl dX11_text_64 ?_
      refine mp_1 hx hb hts (by decide +kernel) hown hK hP hD hS (hts (.fieldLink RX11 104 "JugglingHallModel" "looked" "I") (by decide +kernel)) dX11_text_67 (fun H locs hP hD hS => ?_)
      refine lv_iconst (v := 0) hx hb dX11_text_70 (by decide) ?_
      refine lv_istore_n (lv' := [(1, .int 0), (0, .ref mm)]) hx hb dX11_text_71 rfl hl (by decide) rfl (fun ls hl => ?_)
      have loop72 : ∀ (ddloop72 : Nat) (lx : Int32) (ga : (Nat → Int32)) (H : Heap) (locs : List Loc) (ls : Array Slot), (8 - lx.toInt).toNat < ddloop72 → (0 ≤ lx.toInt ∧ lx.toInt ≤ 8) → (RowsX jn ga) → (RowsZ jn ga) → (∀ i9 : Int, 150 * (8 * (x0.toInt + 2)) ≤ i9 → ga i9.toNat = f0 i9.toNat) → (∀ i9 : Int, 0 ≤ i9 → i9 < 150 * (8 * (x0.toInt + 1)) → ga i9.toNat = f0 i9.toNat) → (∀ k9 : Int, 0 ≤ k9 → k9 < lx.toInt → ga (150 * (8 * (x0.toInt + 1) + k9)).toNat = g8_2 k9.toNat ∧ ∀ i9 : Int, 0 ≤ i9 → i9 < 6 * (g8_2 k9.toNat).toInt → ga (150 * (8 * (x0.toInt + 1) + k9) + 1 + i9).toNat = g9_2 (144 * k9 + i9).toNat) → va_P D vwCl (mX mm q jn cI z_8 z_8 (0 : Int32) r_2 (-1 : Int32) y5_2 y6_2 y7_2 y8_2 y9_2 y10_2 y11_2 y12_2 y13_2 y14_2 x15 x16 x17 x18 x19 x20 ga f1 f2 g3_2 g4_2 g5_2 g6_2 g7_2 g8_2 g9_2 g10_2 g11_2 f12 f13 f14 f15 f16 f17 f18 f19 f20 f21 f22 f23 f24) H → va_D A (mX mm q jn cI z_8 z_8 (0 : Int32) r_2 (-1 : Int32) y5_2 y6_2 y7_2 y8_2 y9_2 y10_2 y11_2 y12_2 y13_2 y14_2 x15 x16 x17 x18 x19 x20 ga f1 f2 g3_2 g4_2 g5_2 g6_2 g7_2 g8_2 g9_2 g10_2 g11_2 f12 f13 f14 f15 f16 f17 f18 f19 f20 f21 f22 f23 f24) → va_S A s.heap H locs → lv_has ls 4 [(0, .ref mm), (1, .int lx)] → W p l e ({ frames := 10, cells := 0, slots := 0, locals := 224 }) s m args below meth c H locs 0 0 Q (F0 m 72 ls []) := by
        intro ddloop72
        induction ddloop72 with
        | zero =>
          intro lx ga H locs ls hdd
          exact absurd hdd (Nat.not_lt_zero _)
        | succ ddloop72 ih72 =>
          intro lx ga H locs ls hdd hlx hRa hZa hrs hrq hdn hP hD hS hl
          refine lv_iload_n hx hb dX11_text_72 rfl (lv_at hl 1 rfl) ?_
          refine lv_bipush (v := 8) hx hb dX11_text_73 (by decide) ?_
          refine a_icmp_ge (u := lx.toInt) (v := 8) (tgt := 148) hx hb dX11_text_75 (by decide) (rfl) (by decide) (fun c_9 => ?_) (fun c_9 => ?_)
          · refine lv_iconst (v := 0) hx hb dX11_text_148 (by decide) ?_
            refine lv_istore_n (lv' := [(1, .int 0), (0, .ref mm)]) hx hb dX11_text_149 rfl hl (by decide) rfl (fun ls hl => ?_)
            have loop150 : ∀ (ddloop150 : Nat) (k : Int32) (gc : (Nat → Int32)) (H : Heap) (locs : List Loc) (ls : Array Slot), (8 - k.toInt).toNat < ddloop150 → (0 ≤ k.toInt ∧ k.toInt ≤ 8) → (SeenX gc) → va_P D vwCl (mX mm q jn cI z_8 z_8 (0 : Int32) r_2 (-1 : Int32) y5_2 y6_2 y7_2 y8_2 y9_2 y10_2 y11_2 y12_2 y13_2 y14_2 x15 x16 x17 x18 x19 x20 ga gc f2 g3_2 g4_2 g5_2 g6_2 g7_2 g8_2 g9_2 g10_2 g11_2 f12 f13 f14 f15 f16 f17 f18 f19 f20 f21 f22 f23 f24) H → va_D A (mX mm q jn cI z_8 z_8 (0 : Int32) r_2 (-1 : Int32) y5_2 y6_2 y7_2 y8_2 y9_2 y10_2 y11_2 y12_2 y13_2 y14_2 x15 x16 x17 x18 x19 x20 ga gc f2 g3_2 g4_2 g5_2 g6_2 g7_2 g8_2 g9_2 g10_2 g11_2 f12 f13 f14 f15 f16 f17 f18 f19 f20 f21 f22 f23 f24) → va_S A s.heap H locs → lv_has ls 4 [(0, .ref mm), (1, .int k)] → W p l e ({ frames := 10, cells := 0, slots := 0, locals := 224 }) s m args below meth c H locs 0 0 Q (F0 m 150 ls []) := by
              intro ddloop150
              induction ddloop150 with
              | zero =>
                intro k gc H locs ls hdd
                exact absurd hdd (Nat.not_lt_zero _)
              | succ ddloop150 ih150 =>
                intro k gc H locs ls hdd hk hSe hP hD hS hl
                refine lv_iload_n hx hb dX11_text_150 rfl (lv_at hl 1 rfl) ?_
                refine lv_bipush (v := 8) hx hb dX11_text_151 (by decide) ?_
                refine a_icmp_ge (u := k.toInt) (v := 8) (tgt := 182) hx hb dX11_text_153 (by decide) (rfl) (by decide) (fun c_10 => ?_) (fun c_10 => ?_)
                · refine lv_aload_n hx hb dX11_text_182 rfl (lv_at hl 0 rfl) ?_
                  refine va_get (D := D) (ci := 11) (v := .int z_8) (C := RX11) (T := TX11) (N := 47) hx hb hts (by decide +kernel) hown hK.1 hP 0 rfl rfl 3 (by decide) (hts (.fieldLink RX11 185 "JugglingHallModel" "time" "I") (by decide +kernel)) (fun _ h9 => h9) rfl dX11_text_183 ?_
                  have hz_11 : (0 : Int32).toInt = 0 := by decide
                  have hz_12 : (-1 : Int32).toInt = (-1) := by decide
                  exact g_iret (z_8, z_8, z_8, (0 : Int32), r_2, (-1 : Int32), y5_2, y6_2, y7_2, y8_2, y9_2, y10_2, y11_2, y12_2, y13_2, y14_2, ga, gc, g3_2, g4_2, g5_2, g6_2, g7_2, g8_2, g9_2, g10_2, g11_2) hx hb hr hlocks hS rfl (⟨show 0 ≤ z_8.toInt ∧ z_8.toInt ≤ 60 from (by first | assumption | omega), show 0 ≤ (0 : Int32).toInt ∧ (0 : Int32).toInt ≤ 300 from (by first | assumption | omega), show RowsX jn ga from (by first | assumption | omega), show RowsZ jn ga from (by first | assumption | omega), show SeenX gc from (by first | assumption | omega), show MK g11_2 from (by first | assumption | omega), show FM g10_2 from (by first | assumption | omega), show 0 ≤ z_8.toInt ∧ z_8.toInt ≤ z_8.toInt from (by first | assumption | omega), show Hd ((x0.toInt = 60 ∧ z_8.toInt = -1 ∧ z_8 = x0 ∧ z_8 = x1 ∧ (0 : Int32) = x2 ∧ ga = f0) ∨ (x0.toInt < 60 ∧ (0 : Int32).toInt = 0 ∧ z_8 = x0 ∧ z_8 = x1 ∧ ga = f0 ∧ TFls ks vs (0, Ev x0.toInt, fun _ => 0)) ∨ (x0.toInt < 60 ∧ (0 : Int32).toInt = 0 ∧ z_8.toInt = x0.toInt + 1 ∧ z_8 = z_8 ∧ ∃ (i9 : Nat) (E9 : Env1) (F9 : Int → Int), TWel ks vs (0, Ev x0.toInt, fun _ => 0) (i9, E9, F9) ∧ RefR ga (x0.toInt + 1) (evp Ev (x0.toInt + 1) E9) ∧ EOk E9 ∧ ∀ i9 : Int, 150 * (8 * (x0.toInt + 2)) ≤ i9 → ga i9.toNat = f0 i9.toNat)) from (by
                    obtain ⟨i9, E9, F9, t1, t2, t3, t4⟩ := or_T hF_2 (by omega)
                    exact Or.inr (Or.inr ⟨by omega, by decide, by omega, rfl, i9, E9, F9, t1, ref_text hEv (by omega) hEO t2 t3 (fun k9 h8 h9 => ⟨(hFr_2 k9 h8 h9).1, (hFr_2 k9 h8 h9).2.1⟩) hrq (fun k9 h8 h9 => hdn k9 h8 (by omega)), t3, hrs⟩))⟩) hP hD hQ (Nat.le_of_ble_eq_true rfl) (Nat.le_of_ble_eq_true rfl) dX11_text_186
                · refine lv_aload_n hx hb dX11_text_156 rfl (lv_at hl 0 rfl) ?_
                  refine va_get (D := D) (ci := 11) (v := .ref (q 1)) (C := RX11) (T := TX11) (N := 47) hx hb hts (by decide +kernel) hown hK.1 hP 0 rfl rfl 2 (by decide) (hts (.fieldLink RX11 14 "JugglingHallModel" "seenRows" "[I") (by decide +kernel)) (fun _ h9 => h9) rfl dX11_text_157 ?_
                  refine lv_bipush (v := 8) hx hb dX11_text_160 (by decide) ?_
                  refine lv_aload_n hx hb dX11_text_162 rfl (lv_at hl 0 rfl) ?_
                  refine va_get (D := D) (ci := 11) (v := .int z_8) (C := RX11) (T := TX11) (N := 47) hx hb hts (by decide +kernel) hown hK.1 hP 0 rfl rfl 3 (by decide) (hts (.fieldLink RX11 185 "JugglingHallModel" "time" "I") (by decide +kernel)) (fun _ h9 => h9) rfl dX11_text_163 ?_
                  refine a_imul (u := 8) (v := (x0.toInt + 1)) hx hb dX11_text_166 (by decide) (e_8) (by omega) (fun z_13 e_13 => ?_)
                  refine lv_iload_n hx hb dX11_text_167 rfl (lv_at hl 1 rfl) ?_
                  refine a_iadd (u := (8 * (x0.toInt + 1))) (v := k.toInt) hx hb dX11_text_168 (e_13) (rfl) (by omega) (fun z_14 e_14 => ?_)
                  refine lv_aload_n hx hb dX11_text_169 rfl (lv_at hl 0 rfl) ?_
                  refine va_get (D := D) (ci := 11) (v := .ref (q 10)) (C := RX11) (T := TX11) (N := 47) hx hb hts (by decide +kernel) hown hK.1 hP 0 rfl rfl 24 (by decide) (hts (.fieldLink RX11 48 "JugglingHallModel" "freshMarks" "[I") (by decide +kernel)) (fun _ h9 => h9) rfl dX11_text_170 ?_
                  refine lv_iload_n hx hb dX11_text_173 rfl (lv_at hl 1 rfl) ?_
                  refine a_iald (f := g10_2) (u := k.toInt) hx hb hK.1 hP 11 0 rfl rfl dX11_text_174 (rfl) (by omega) (fun z_15 q_15 e_15 => ?_)
                  refine ma_1 (u := ((8 * (x0.toInt + 1)) + k.toInt)) hx hb hK hP hD hS dX11_text_175 (e_14) (by omega) (fun g_16 H locs eg_16 hP hD hS => ?_)
                  obtain ⟨z_17, q_17, e_17⟩ := i_inc (a := k.toInt) (1) (rfl) (by decide) (by omega) (by omega)
                  refine lv_iinc (v := z_17) (lv' := [(1, .int z_17), (0, .ref mm)]) hx hb dX11_text_176 hl (k := 1) rfl q_17 (by decide) rfl (fun ls hl => ?_)
                  refine lv_goto (tgt := 150) hx hb dX11_text_179 (by decide) ?_
                  exact ih150 z_17 g_16 _ _ _ (by omega) (by first | assumption | omega) (seen_set (t := z_8.toInt) (k := k.toInt) hSe (by omega) (fun i i0 i1 => by rw [eg_16, un_i i0 (by omega) (by omega)]) (fun e => by rw [eg_16, show 8 * z_8.toInt + k.toInt = ((8 * (x0.toInt + 1)) + k.toInt) by omega, pk_us, q_15, show k.toInt = 0 by omega]; exact hFm_2.1) (fun e => by rw [eg_16, show 8 * z_8.toInt + k.toInt = ((8 * (x0.toInt + 1)) + k.toInt) by omega, pk_us, q_15]; exact hFm_2.2 _ (by omega) (by omega))) hP hD hS (lv_sub hl [1, 0] rfl)
            have hz_18 : (0 : Int32).toInt = 0 := by decide
            exact loop150 ((8 - (0 : Int32).toInt).toNat + 1) (0 : Int32) f1 _ _ _ (by omega) (by first | assumption | omega) (hSe) hP hD hS (lv_sub hl [1, 0] rfl)
          · refine lv_aload_n hx hb dX11_text_78 rfl (lv_at hl 0 rfl) ?_
            refine va_get (D := D) (ci := 11) (v := .int z_8) (C := RX11) (T := TX11) (N := 47) hx hb hts (by decide +kernel) hown hK.1 hP 0 rfl rfl 3 (by decide) (hts (.fieldLink RX11 185 "JugglingHallModel" "time" "I") (by decide +kernel)) (fun _ h9 => h9) rfl dX11_text_79 ?_
            refine lv_iload_n hx hb dX11_text_82 rfl (lv_at hl 1 rfl) ?_
            refine roP (va_runS (As := [.int z_8, .int lx]) (rest := []) ⟨hx, hb, hml, hown, hts⟩ (k_rowAt l D cI cR cM _  (by first | assumption | omega) (by first | assumption | omega)) (va_cwS 2 hts gX11_text_X11_rowAt rfl rfl rfl (by decide +kernel) ⟨Nat.le_of_ble_eq_true rfl, Nat.le_of_ble_eq_true rfl⟩) (pre_S hK va_P_nil (va_D_nil (A := fun _ => True))) rfl rfl hl.1 rfl (lv_room (Nat.le_of_ble_eq_true rfl)) dX11_text_83 ⟨Nat.le_of_ble_eq_true rfl, Nat.le_of_ble_eq_true rfl⟩) hS hA hP (fun r_19 H locs hw hP hS => ?_)
            have h_19 : (r_19.toInt = 150 * (8 * z_8.toInt + lx.toInt)) := hw
            refine lv_istore_n (lv' := [(2, .int r_19), (0, .ref mm), (1, .int lx)]) hx hb dX11_text_86 rfl hl (by decide) rfl (fun ls hl => ?_)
            refine lv_aload_n hx hb dX11_text_87 rfl (lv_at hl 1 rfl) ?_
            refine va_get (D := D) (ci := 11) (v := .ref (q 0)) (C := RX11) (T := TX11) (N := 47) hx hb hts (by decide +kernel) hown hK.1 hP 0 rfl rfl 1 (by decide) (hts (.fieldLink RX11 8 "JugglingHallModel" "rows" "[I") (by decide +kernel)) (fun _ h9 => h9) rfl dX11_text_88 ?_
            refine lv_iload_n hx hb dX11_text_91 rfl (lv_at hl 0 rfl) ?_
            refine lv_aload_n hx hb dX11_text_92 rfl (lv_at hl 1 rfl) ?_
            refine va_get (D := D) (ci := 11) (v := .ref (q 8)) (C := RX11) (T := TX11) (N := 47) hx hb hts (by decide +kernel) hown hK.1 hP 0 rfl rfl 22 (by decide) (hts (.fieldLink RX11 42 "JugglingHallModel" "freshMany" "[I") (by decide +kernel)) (fun _ h9 => h9) rfl dX11_text_93 ?_
            refine lv_iload_n hx hb dX11_text_96 rfl (lv_at hl 2 rfl) ?_
            refine a_iald (f := g8_2) (u := lx.toInt) hx hb hK.1 hP 9 0 rfl rfl dX11_text_97 (rfl) (by omega) (fun z_20 q_20 e_20 => ?_)
            refine ma_0 (u := r_19.toInt) hx hb hK hP hD hS dX11_text_98 (rfl) (by omega) (fun g_21 H locs eg_21 hP hD hS => ?_)
            have hro0 : ∀ i : Int, 0 ≤ i → (i < (150 * (8 * z_8.toInt + lx.toInt)) ∨ (150 * (8 * z_8.toInt + lx.toInt)) + 150 ≤ i) → g_21 i.toNat = ga i.toNat := fun i i0 i1 => by rw [eg_21, un_i i0 (by omega) (by omega)]
            have hrw0 : g_21 (150 * (8 * z_8.toInt + lx.toInt)).toNat = g8_2 lx.toInt.toNat := by rw [eg_21, show (150 * (8 * z_8.toInt + lx.toInt)) = r_19.toInt by omega, pk_us, q_20]
            obtain ⟨hf1, hf2, hf3⟩ := hFr_2 lx.toInt (by omega) (by omega)
            refine lv_iconst (v := 0) hx hb dX11_text_99 (by decide) ?_
            refine lv_istore_n (lv' := [(3, .int 0), (2, .int r_19), (0, .ref mm), (1, .int lx)]) hx hb dX11_text_100 rfl hl (by decide) rfl (fun ls hl => ?_)
            have loop101 : ∀ (ddloop101 : Nat) (k : Int32) (gb : (Nat → Int32)) (H : Heap) (locs : List Loc) (ls : Array Slot), (6 * (g8_2 lx.toInt.toNat).toInt - k.toInt).toNat < ddloop101 → (0 ≤ k.toInt ∧ k.toInt ≤ 6 * (g8_2 lx.toInt.toNat).toInt) → (∀ i : Int, 0 ≤ i → (i < (150 * (8 * z_8.toInt + lx.toInt)) ∨ (150 * (8 * z_8.toInt + lx.toInt)) + 150 ≤ i) → gb i.toNat = ga i.toNat) → (gb (150 * (8 * z_8.toInt + lx.toInt)).toNat = g8_2 lx.toInt.toNat) → (∀ i : Int, 0 ≤ i → i < k.toInt → gb ((150 * (8 * z_8.toInt + lx.toInt)) + 1 + i).toNat = g9_2 (144 * lx.toInt + i).toNat) → va_P D vwCl (mX mm q jn cI z_8 z_8 (0 : Int32) r_2 (-1 : Int32) y5_2 y6_2 y7_2 y8_2 y9_2 y10_2 y11_2 y12_2 y13_2 y14_2 x15 x16 x17 x18 x19 x20 gb f1 f2 g3_2 g4_2 g5_2 g6_2 g7_2 g8_2 g9_2 g10_2 g11_2 f12 f13 f14 f15 f16 f17 f18 f19 f20 f21 f22 f23 f24) H → va_D A (mX mm q jn cI z_8 z_8 (0 : Int32) r_2 (-1 : Int32) y5_2 y6_2 y7_2 y8_2 y9_2 y10_2 y11_2 y12_2 y13_2 y14_2 x15 x16 x17 x18 x19 x20 gb f1 f2 g3_2 g4_2 g5_2 g6_2 g7_2 g8_2 g9_2 g10_2 g11_2 f12 f13 f14 f15 f16 f17 f18 f19 f20 f21 f22 f23 f24) → va_S A s.heap H locs → lv_has ls 4 [(0, .ref mm), (1, .int lx), (2, .int r_19), (3, .int k)] → W p l e ({ frames := 10, cells := 0, slots := 0, locals := 224 }) s m args below meth c H locs 0 0 Q (F0 m 101 ls []) := by
              intro ddloop101
              induction ddloop101 with
              | zero =>
                intro k gb H locs ls hdd
                exact absurd hdd (Nat.not_lt_zero _)
              | succ ddloop101 ih101 =>
                intro k gb H locs ls hdd hk hro hrw hrc hP hD hS hl
                refine lv_iload_n hx hb dX11_text_101 rfl (lv_at hl 3 rfl) ?_
                refine lv_bipush (v := 6) hx hb dX11_text_102 (by decide) ?_
                refine lv_aload_n hx hb dX11_text_104 rfl (lv_at hl 0 rfl) ?_
                refine va_get (D := D) (ci := 11) (v := .ref (q 8)) (C := RX11) (T := TX11) (N := 47) hx hb hts (by decide +kernel) hown hK.1 hP 0 rfl rfl 22 (by decide) (hts (.fieldLink RX11 42 "JugglingHallModel" "freshMany" "[I") (by decide +kernel)) (fun _ h9 => h9) rfl dX11_text_105 ?_
                refine lv_iload_n hx hb dX11_text_108 rfl (lv_at hl 1 rfl) ?_
                refine a_iald (f := g8_2) (u := lx.toInt) hx hb hK.1 hP 9 0 rfl rfl dX11_text_109 (rfl) (by omega) (fun z_22 q_22 e_22 => ?_)
                have hz9_22 : z_22.toInt = (g8_2 lx.toInt.toNat).toInt := by rw [q_22]
                refine a_imul (u := 6) (v := z_22.toInt) hx hb dX11_text_110 (by decide) (rfl) (by omega) (fun z_23 e_23 => ?_)
                refine a_icmp_ge (u := k.toInt) (v := (6 * z_22.toInt)) (tgt := 142) hx hb dX11_text_111 (by decide) (rfl) (e_23) (fun c_24 => ?_) (fun c_24 => ?_)
                · have hR9 : RowsX jn gb := rows_set (t := z_8.toInt) (k := lx.toInt) hRa (by omega) (by omega) hro hrw (fun i i0 i1 => hrc i i0 (by omega)) hFr_2
                  have hZ9 : RowsZ jn gb := rowz_set (t := z_8.toInt) (k := lx.toInt) hRa hZa (by omega) (by omega) hro hrw (fun i i0 i1 => hrc i i0 (by omega)) hFZ_2
                  obtain ⟨z_25, q_25, e_25⟩ := i_inc (a := lx.toInt) (1) (rfl) (by decide) (by omega) (by omega)
                  refine lv_iinc (v := z_25) (lv' := [(1, .int z_25), (0, .ref mm), (2, .int r_19), (3, .int k)]) hx hb dX11_text_142 hl (k := 1) rfl q_25 (by decide) rfl (fun ls hl => ?_)
                  refine lv_goto (tgt := 72) hx hb dX11_text_145 (by decide) ?_
                  exact ih72 z_25 gb _ _ _ (by omega) (by first | assumption | omega) (by first | assumption | omega) (by first | assumption | omega) (fun i9 h8 => by rw [hro i9 (by omega) (Or.inr (by omega))]; exact hrs i9 h8) (fun i9 h8 h9 => by rw [hro i9 h8 (Or.inl (by omega))]; exact hrq i9 h8 h9) (fun k9 h8 h9 => by
                    by_cases q9 : k9 = lx.toInt
                    · rw [q9, show x0.toInt + 1 = z_8.toInt by omega]
                      exact ⟨hrw, fun i9 i0 i1 => hrc i9 i0 (by omega)⟩
                    · have d9 := hdn k9 h8 (by omega)
                      have b9 := (hFr_2 k9 h8 (by omega)).2.1
                      refine ⟨by rw [hro _ (by omega) (by omega)]; exact d9.1, fun i9 i0 i1 => ?_⟩
                      rw [hro _ (by omega) (by omega)]; exact d9.2 i9 i0 i1) hP hD hS (lv_sub hl [1, 0] rfl)
                · refine lv_aload_n hx hb dX11_text_114 rfl (lv_at hl 0 rfl) ?_
                  refine va_get (D := D) (ci := 11) (v := .ref (q 0)) (C := RX11) (T := TX11) (N := 47) hx hb hts (by decide +kernel) hown hK.1 hP 0 rfl rfl 1 (by decide) (hts (.fieldLink RX11 8 "JugglingHallModel" "rows" "[I") (by decide +kernel)) (fun _ h9 => h9) rfl dX11_text_115 ?_
                  refine lv_iload_n hx hb dX11_text_118 rfl (lv_at hl 2 rfl) ?_
                  refine lv_iconst (v := 1) hx hb dX11_text_119 (by decide) ?_
                  refine a_iadd (u := r_19.toInt) (v := 1) hx hb dX11_text_120 (rfl) (by decide) (by omega) (fun z_26 e_26 => ?_)
                  refine lv_iload_n hx hb dX11_text_121 rfl (lv_at hl 3 rfl) ?_
                  refine a_iadd (u := (r_19.toInt + 1)) (v := k.toInt) hx hb dX11_text_122 (e_26) (rfl) (by omega) (fun z_27 e_27 => ?_)
                  refine lv_aload_n hx hb dX11_text_123 rfl (lv_at hl 0 rfl) ?_
                  refine va_get (D := D) (ci := 11) (v := .ref (q 9)) (C := RX11) (T := TX11) (N := 47) hx hb hts (by decide +kernel) hown hK.1 hP 0 rfl rfl 23 (by decide) (hts (.fieldLink RX11 45 "JugglingHallModel" "fresh" "[I") (by decide +kernel)) (fun _ h9 => h9) rfl dX11_text_124 ?_
                  refine lv_sipush (v := 144) hx hb dX11_text_127 (by decide) ?_
                  refine lv_iload_n hx hb dX11_text_130 rfl (lv_at hl 1 rfl) ?_
                  refine a_imul (u := 144) (v := lx.toInt) hx hb dX11_text_131 (by decide) (rfl) (by omega) (fun z_28 e_28 => ?_)
                  refine lv_iload_n hx hb dX11_text_132 rfl (lv_at hl 3 rfl) ?_
                  refine a_iadd (u := (144 * lx.toInt)) (v := k.toInt) hx hb dX11_text_133 (e_28) (rfl) (by omega) (fun z_29 e_29 => ?_)
                  refine a_iald (f := g9_2) (u := ((144 * lx.toInt) + k.toInt)) hx hb hK.1 hP 10 0 rfl rfl dX11_text_134 (e_29) (by omega) (fun z_30 q_30 e_30 => ?_)
                  refine ma_0 (u := ((r_19.toInt + 1) + k.toInt)) hx hb hK hP hD hS dX11_text_135 (e_27) (by omega) (fun g_31 H locs eg_31 hP hD hS => ?_)
                  obtain ⟨z_32, q_32, e_32⟩ := i_inc (a := k.toInt) (1) (rfl) (by decide) (by omega) (by omega)
                  refine lv_iinc (v := z_32) (lv' := [(3, .int z_32), (0, .ref mm), (1, .int lx), (2, .int r_19)]) hx hb dX11_text_136 hl (k := 3) rfl q_32 (by decide) rfl (fun ls hl => ?_)
                  refine lv_goto (tgt := 101) hx hb dX11_text_139 (by decide) ?_
                  exact ih101 z_32 g_31 _ _ _ (by omega) (by first | assumption | omega) (fun i i0 i1 => by rw [eg_31, un_i i0 (by omega) (by omega)]; exact hro i i0 i1) (by rw [eg_31, un_i (by omega) (by omega) (by omega)]; exact hrw) (fun i i0 i1 => by
                    by_cases q : i = k.toInt
                    · rw [eg_31, q, show (150 * (8 * z_8.toInt + lx.toInt)) + 1 + k.toInt = ((r_19.toInt + 1) + k.toInt) by omega, pk_us, q_30, show ((144 * lx.toInt) + k.toInt) = 144 * lx.toInt + k.toInt by omega]
                    · rw [eg_31, un_i (by omega) (by omega) (by omega)]; exact hrc i i0 (by omega)) hP hD hS (lv_sub hl [1, 2, 3, 0] rfl)
            have hz_33 : (0 : Int32).toInt = 0 := by decide
            exact loop101 ((6 * (g8_2 lx.toInt.toNat).toInt - (0 : Int32).toInt).toNat + 1) (0 : Int32) g_21 _ _ _ (by omega) (by first | assumption | omega) (hro0) (hrw0) (fun i i0 i1 => absurd i1 (by omega)) hP hD hS (lv_sub hl [2, 3, 1, 0] rfl)
      have hz_34 : (0 : Int32).toInt = 0 := by decide
      exact loop72 ((8 - (0 : Int32).toInt).toNat + 1) (0 : Int32) f0 _ _ _ (by omega) (by first | assumption | omega) (by first | assumption | omega) (by first | assumption | omega) (fun _ _ => rfl) (fun _ _ _ => rfl) (fun k9 h8 h9 => absurd h9 (by omega)) hP hD hS (lv_sub hl [1, 0] rfl)
  · refine lv_iconst (v := (-1)) hx hb dX11_text_9 (by decide) ?_
    have hz_35 : (-1 : Int32).toInt = (-1) := by decide
    exact g_iret ((-1 : Int32), x0, x1, x2, x3, x4, x5, x6, x7, x8, x9, x10, x11, x12, x13, x14, f0, f1, f3, f4, f5, f6, f7, f8, f9, f10, f11) hx hb hr hlocks hS rfl (⟨show 0 ≤ x0.toInt ∧ x0.toInt ≤ 60 from (by first | assumption | omega), show 0 ≤ x2.toInt ∧ x2.toInt ≤ 300 from (by first | assumption | omega), show RowsX jn f0 from (by first | assumption | omega), show RowsZ jn f0 from (by first | assumption | omega), show SeenX f1 from (by first | assumption | omega), show MK f11 from (by first | assumption | omega), show FM f10 from (by first | assumption | omega), show 0 ≤ x1.toInt ∧ x1.toInt ≤ x0.toInt from (by first | assumption | omega), show Hd ((x0.toInt = 60 ∧ (-1 : Int32).toInt = -1 ∧ x0 = x0 ∧ x1 = x1 ∧ x2 = x2 ∧ f0 = f0) ∨ (x0.toInt < 60 ∧ x2.toInt = 0 ∧ x0 = x0 ∧ x1 = x1 ∧ f0 = f0 ∧ TFls ks vs (0, Ev x0.toInt, fun _ => 0)) ∨ (x0.toInt < 60 ∧ x2.toInt = 0 ∧ x0.toInt = x0.toInt + 1 ∧ x1 = x0 ∧ ∃ (i9 : Nat) (E9 : Env1) (F9 : Int → Int), TWel ks vs (0, Ev x0.toInt, fun _ => 0) (i9, E9, F9) ∧ RefR f0 (x0.toInt + 1) (evp Ev (x0.toInt + 1) E9) ∧ EOk E9 ∧ ∀ i9 : Int, 150 * (8 * (x0.toInt + 2)) ≤ i9 → f0 i9.toNat = f0 i9.toNat)) from (Or.inl ⟨by omega, by decide, rfl, rfl, rfl, rfl⟩)⟩) hP hD hQ (Nat.le_of_ble_eq_true rfl) (Nat.le_of_ble_eq_true rfl) dX11_text_10
