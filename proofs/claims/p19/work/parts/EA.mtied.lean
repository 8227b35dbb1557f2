/-- nothing is told of the times to come -/
def RefZ (R : Nat → Int32) (T : Int) : Prop := ∀ t l : Int, T < t → t ≤ 60 → 0 ≤ l → l < 8 → (R (150 * (8 * t + l)).toNat).toInt = 0
theorem ref_drop {R R2 : Nat → Int32} {T z n : Int} {Ev : Int → Env1} {u : Int → Int} (h : RefR R T Ev) (hT : 0 ≤ T ∧ T < 60) (hO : ∀ t : Int, 0 ≤ t → t ≤ T → EOk (Ev t)) (hZ : RefZ R T) (z0 : 0 ≤ z ∧ z < 8) (hu : ∀ i : Int, 0 ≤ i → (i < 150 * (8 * (T + 1) + z) ∨ 150 * (8 * (T + 1) + z) + 150 ≤ i) → R2 i.toNat = R i.toNat) (hn : (R2 (150 * (8 * (T + 1) + z)).toNat).toInt = n) (n0 : 0 < n) (hr : RSo R2 (150 * (8 * (T + 1) + z) + 1) u n) : RefR R2 (T + 1) (evp Ev (T + 1) (eup (Ev T) z (n, u))) := by
  refine ref_old h hO (fun i i0 i1 => hu i i0 (by omega)) (fun l l0 l1 r hr9 => ?_)
  by_cases e : l = z
  · have hrr := LatV_now hr9 hT.1 (by rw [e, hn]; exact n0)
    rw [e] at hrr ⊢
    rw [eu_s]
    refine ⟨fun q => absurd q (by omega), fun _ => ⟨by rw [hrr, hn], by rw [hrr]; exact hr⟩⟩
  · rw [eu_n e]
    have hr2 := LatV_tr (R := R) (LatV_up hr9 (by rw [hu _ (by omega) (by omega), hZ (T + 1) l (by omega) (by omega) l0 l1]; decide)) (fun v v1 v2 => hu _ (by omega) (by omega))
    obtain ⟨a1, a2⟩ := h T l hT.1 (Int.le_refl _) l0 l1 r hr2
    refine ⟨a1, fun r0 => ?_⟩
    obtain ⟨b1, b2⟩ := a2 r0
    obtain ⟨v, v1, v2, v3⟩ := LatV_b hr2 r0
    rw [hu r (by omega) (by omega)]
    exact ⟨b1, RSo_eq b2 (hO T hT.1 (Int.le_refl _) l l0 l1).2.1 (fun i i0 i1 => hu i (by omega) (by omega))⟩
theorem refz_drop {R R2 : Nat → Int32} {T z : Int} (h : RefZ R T) (hT : 0 ≤ T) (z0 : 0 ≤ z ∧ z < 8) (hu : ∀ i : Int, 0 ≤ i → (i < 150 * (8 * (T + 1) + z) ∨ 150 * (8 * (T + 1) + z) + 150 ≤ i) → R2 i.toNat = R i.toNat) : RefZ R2 (T + 1) := fun t l t0 t1 l0 l1 => by
  rw [hu _ (by omega) (by omega)]; exact h t l (by omega) t1 l0 l1
theorem refz_text {R R2 : Nat → Int32} {T : Int} (h : RefZ R T) (hT : 0 ≤ T) (hu : ∀ i : Int, 150 * (8 * (T + 2)) ≤ i → R2 i.toNat = R i.toNat) : RefZ R2 (T + 1) := fun t l t0 t1 l0 l1 => by
  rw [hu _ (by omega)]; exact h t l (by omega) t1 l0 l1
/-- a row without some throws, not yet in order -/
noncomputable def drV (w : Int → Int) (D : Int → Prop) : Int → Int := fun j => @ite Int (D j) (Classical.propDecidable _) 0 (w j)
theorem drV_y {w : Int → Int} {D : Int → Prop} {j : Int} (h : D j) : drV w D j = 0 := by unfold drV; rw [if_pos h]
theorem drV_n {w : Int → Int} {D : Int → Prop} {j : Int} (h : ¬ D j) : drV w D j = w j := by unfold drV; rw [if_neg h]
theorem dr_p {w : Int → Int} {D : Int → Prop} {b : Int} (hs : Srt w b) : (drV w D (2 * b) < drV w D (2 * b + 1) → drW w D (2 * b) = drV w D (2 * b + 1) ∧ drW w D (2 * b + 1) = drV w D (2 * b)) ∧ (¬ drV w D (2 * b) < drV w D (2 * b + 1) → drW w D (2 * b) = drV w D (2 * b) ∧ drW w D (2 * b + 1) = drV w D (2 * b + 1)) := by
  unfold Srt at hs
  have e0 : drW w D (2 * b) = @ite Int (D (2 * b)) (Classical.propDecidable _) (drV w D (2 * b + 1)) (w (2 * b)) := by
    unfold drW drV
    rw [if_pos (by omega)]
  have e1 : drW w D (2 * b + 1) = @ite Int (D (2 * b)) (Classical.propDecidable _) 0 (drV w D (2 * b + 1)) := by
    unfold drW drV
    rw [if_neg (by omega), show 2 * b + 1 - 1 = 2 * b by omega]
    by_cases q : D (2 * b)
    · rw [if_pos q, if_pos (Or.inl q)]
    · rw [if_neg q]
      by_cases q1 : D (2 * b + 1)
      · rw [if_pos q1, if_pos (Or.inr q1)]
      · rw [if_neg q1, if_neg (fun h => h.elim q q1)]
  have v1 : 0 ≤ drV w D (2 * b + 1) ∧ drV w D (2 * b + 1) ≤ w (2 * b) := by
    by_cases q1 : D (2 * b + 1)
    · rw [drV_y q1]; omega
    · rw [drV_n q1]; omega
  by_cases q : D (2 * b)
  · rw [if_pos q] at e0 e1
    rw [e0, e1, drV_y q]
    exact ⟨fun _ => ⟨rfl, rfl⟩, fun h => ⟨by omega, by omega⟩⟩
  · rw [if_neg q] at e0 e1
    rw [e0, e1, drV_n q]
    exact ⟨fun h => absurd h (by omega), fun _ => ⟨rfl, rfl⟩⟩
/-- which throws the reference drops -/
def Dr (La : Int → Int) (cy : Int32) (j : Int) : Prop := 0 ≤ La j ∧ La j < 31 ∧ ∃ s : Int32, s.toInt = La j ∧ ((cy >>> (s &&& 31)) &&& 1).toInt = 1
def BtM (k : Int) (y : Int32) : Prop := 0 ≤ y.toInt ∧ ∀ s : Int32, s.toInt = k → k < 31 → (y >>> (s &&& 31)).toInt = 0
def DqR (g : Nat → Int32) (y : Int32) (t : Int) : Prop := 0 ≤ (g t.toNat).toInt ∧ (g t.toNat).toInt < 31 ∧ ((y >>> (g t.toNat &&& 31)) &&& 1).toInt = 1
theorem DqR_D {g : Nat → Int32} {La : Int → Int} {y : Int32} {c t : Int} (ht : t = 6 * (c / 2) + c % 2) (h : (g (6 * (c / 2) + c % 2).toNat).toInt = La c) : DqR g y t ↔ Dr La y c := by
  unfold DqR Dr
  rw [ht, h]
  constructor
  · rintro ⟨a1, a2, a3⟩
    exact ⟨a1, a2, _, h, a3⟩
  · rintro ⟨a1, a2, s, a3, a4⟩
    have : s = g (6 * (c / 2) + c % 2).toNat := Int32.toInt_inj.mp (a3.trans h.symm)
    rw [this] at a4
    exact ⟨a1, a2, a4⟩
set_option maxRecDepth 100000 in
set_option maxHeartbeats 4000000 in
theorem k_tied3 (l : Launch) (D : va_G) (cI cR cM : ClassId) (sz : Nat) {jn mm : Nat} {q : Nat → Nat} {x0 x1 x2 x3 x4 x5 x6 x7 x8 x9 x10 x11 x12 x13 x14 x15 x16 x17 x18 x19 x20 : Int32} {f0 f1 f2 f3 f4 f5 f6 f7 f8 f9 f10 f11 f12 f13 f14 f15 f16 f17 f18 f19 f20 f21 f22 f23 f24 : Nat → Int32} {k : Int32} {Ev : Int → Env1} (hj : 1 ≤ jn ∧ jn ≤ 3) (h0 : 0 ≤ x0.toInt ∧ x0.toInt ≤ 60) (h1 : 0 ≤ x1.toInt ∧ x1.toInt ≤ 60) (hR : RowsX jn f0) (hRZ : RowsZ jn f0) (h10 : x1.toInt ≤ x0.toInt) (hj1 : jn = 1) (hEv : RefR f0 x0.toInt Ev) (hEO : ∀ t9 : Int, 0 ≤ t9 → t9 ≤ x0.toInt → EOk (Ev t9)) : Met l yX11_tied wsX11_tied ({ frames := 4, cells := 0, slots := 0, locals := 102 }) (P0 D cI cR cM [.ref mm, .int k] sz (mX mm q jn cI x0 x1 x2 x3 x4 x5 x6 x7 x8 x9 x10 x11 x12 x13 x14 x15 x16 x17 x18 x19 x20 f0 f1 f2 f3 f4 f5 f6 f7 f8 f9 f10 f11 f12 f13 f14 f15 f16 f17 f18 f19 f20 f21 f22 f23 f24)) (QG (S := Int32 × Int32 × Int32 × Int32 × (Nat → Int32) × (Nat → Int32) × (Nat → Int32) × (Nat → Int32) × (Nat → Int32)) (fun u => some (.int u.1)) (fun u => mX mm q jn cI x0 x1 x2 x3 x4 x5 x6 x7 x8 x9 x10 x11 x12 x13 x14 (u.2.1) (u.2.2.1) (u.2.2.2.1) x18 x19 x20 f0 f1 f2 f3 f4 f5 f6 f7 f8 f9 f10 f11 (u.2.2.2.2.1) (u.2.2.2.2.2.1) (u.2.2.2.2.2.2.1) (u.2.2.2.2.2.2.2.1) (u.2.2.2.2.2.2.2.2) f17 f18 f19 f20 f21 f22 f23 f24) (fun u => (u.1.toInt = -1 ∨ (IsRow jn f0 u.1.toInt ∧ ZX jn f0 (u.1.toInt + 1) (f0 u.1.toInt.toNat).toInt ∧ 0 ≤ u.2.2.2.1.toInt ∧ u.2.2.2.1.toInt ≤ 144)) ∧ (u.1.toInt ≤ 150 * (8 * x1.toInt + 7)) ∧ (Hd ((u.1.toInt = -1 ∧ ¬ ((0 ≤ k.toInt ∧ k.toInt < 8) ∧ 0 < (Ev x1.toInt k.toInt).1 ∧ GdW (Ev x1.toInt k.toInt).2 (Ev x1.toInt k.toInt).1)) ∨ (0 ≤ u.1.toInt ∧ (0 ≤ k.toInt ∧ k.toInt < 8) ∧ 0 < (Ev x1.toInt k.toInt).1 ∧ (Ev x1.toInt k.toInt).1 = (f0 u.1.toInt.toNat).toInt ∧ RSo f0 (u.1.toInt + 1) (Ev x1.toInt k.toInt).2 (f0 u.1.toInt.toNat).toInt ∧ GdW (Ev x1.toInt k.toInt).2 (Ev x1.toInt k.toInt).1 ∧ ∃ La : Int → Int, (∀ t9 : Int, 0 ≤ t9 → t9 < 2 * (f0 u.1.toInt.toNat).toInt → (u.2.2.2.2.2.2.2.1 (6 * (t9 / 2) + t9 % 2).toNat).toInt = La t9) ∧ DrL (Ev x1.toInt k.toInt).2 (Ev x1.toInt k.toInt).1 La u.2.2.2.1.toInt)))) D (va_A (mX mm q jn cI x0 x1 x2 x3 x4 x5 x6 x7 x8 x9 x10 x11 x12 x13 x14 x15 x16 x17 x18 x19 x20 f0 f1 f2 f3 f4 f5 f6 f7 f8 f9 f10 f11 f12 f13 f14 f15 f16 f17 f18 f19 f20 f21 f22 f23 f24) sz)) 0 0 (va_A (mX mm q jn cI x0 x1 x2 x3 x4 x5 x6 x7 x8 x9 x10 x11 x12 x13 x14 x15 x16 x17 x18 x19 x20 f0 f1 f2 f3 f4 f5 f6 f7 f8 f9 f10 f11 f12 f13 f14 f15 f16 f17 f18 f19 f20 f21 f22 f23 f24) sz) := by
  refine go (cc := cX11_tied) (maxL := 3) (ret := (some .int)) (by decide) rfl (Nat.le_of_ble_eq_true rfl) ?_
  intro p e s m below meth c ls args Q hQ hsz hx hb hr hml hts hown hlocks hnm hP hK hD hl
  subst hsz
  have hD := hD.self (sz := s.heap.size)
  generalize hAe : va_A (mX mm q jn cI x0 x1 x2 x3 x4 x5 x6 x7 x8 x9 x10 x11 x12 x13 x14 x15 x16 x17 x18 x19 x20 f0 f1 f2 f3 f4 f5 f6 f7 f8 f9 f10 f11 f12 f13 f14 f15 f16 f17 f18 f19 f20 f21 f22 f23 f24) s.heap.size = A at hD hQ
  have hA : ∀ q, s.heap.size ≤ q → A q := fun q h => by rw [← hAe]; exact Or.inr h
  have hS : va_S A s.heap s.heap [] := va_S.rf
  have hl : lv_has ls 3 [(0, .ref mm), (1, .int k)] := hl
  refine lv_aload_n hx hb dX11_tied_0 rfl (lv_at hl 0 rfl) ?_
  refine lv_iload_n hx hb dX11_tied_1 rfl (lv_at hl 1 rfl) ?_
  refine roP (va_runV (As := [.int k]) (rest := []) ⟨hx, hb, hml, hown, hts⟩ (k_rowOf3 l D cI cR cM _  (by first | assumption | omega) (by first | assumption | omega) (by first | assumption | omega)) (cwV 1 hts gX11_tied_X11_rowOf rfl rfl rfl (by decide +kernel) ⟨Nat.le_of_ble_eq_true rfl, Nat.le_of_ble_eq_true rfl⟩) (pre_V hK hP hD 0 11 rfl rfl) rfl rfl hl.1 rfl (lv_room (Nat.le_of_ble_eq_true rfl)) dX11_tied_2 ⟨Nat.le_of_ble_eq_true rfl, Nat.le_of_ble_eq_true rfl⟩) hS hA hP (fun r_1 H locs hw hP hS => ?_)
  obtain ⟨h_1, hle_1, hv_1⟩ : (r_1.toInt = -1 ∨ (IsRow jn f0 r_1.toInt ∧ ZX jn f0 (r_1.toInt + 1) (f0 r_1.toInt.toNat).toInt)) ∧ (r_1.toInt ≤ 150 * (8 * x1.toInt + 7)) ∧ ((¬ (0 ≤ k.toInt ∧ k.toInt < 8) ∧ r_1.toInt = -1) ∨ ((0 ≤ k.toInt ∧ k.toInt < 8) ∧ LatV f0 k.toInt x1.toInt r_1.toInt)) := hw
  have hr9 : r_1.toInt = -1 ∨ 1 ≤ (f0 r_1.toInt.toNat).toInt := h_1.imp id (fun q9 => q9.1.2.2.1)
  have hr8 : r_1.toInt = -1 ∨ 0 ≤ r_1.toInt := h_1.imp id (fun q9 => q9.1.1)
  have hAt : (r_1.toInt = -1 ∧ (¬ (0 ≤ k.toInt ∧ k.toInt < 8) ∨ ((0 ≤ k.toInt ∧ k.toInt < 8) ∧ (Ev x1.toInt k.toInt).1 = 0))) ∨ (0 ≤ r_1.toInt ∧ (0 ≤ k.toInt ∧ k.toInt < 8) ∧ 0 < (Ev x1.toInt k.toInt).1 ∧ (Ev x1.toInt k.toInt).1 = (f0 r_1.toInt.toNat).toInt ∧ RSo f0 (r_1.toInt + 1) (Ev x1.toInt k.toInt).2 (f0 r_1.toInt.toNat).toInt ∧ ∀ i : Int, 0 ≤ i → i < 2 * (f0 r_1.toInt.toNat).toInt → (Ev x1.toInt k.toInt).2 i ≤ 9) := by
    rcases hv_1 with ⟨q1, q2⟩ | ⟨q1, q2⟩
    · exact Or.inl ⟨q2, Or.inl q1⟩
    · rcases rf_at hEv hEO (by omega) q1 q2 hr9 hr8 with ⟨q3, q4⟩ | ⟨q3, q4⟩
      · exact Or.inl ⟨q3, Or.inr ⟨q1, q4⟩⟩
      · exact Or.inr ⟨q3, q1, q4⟩
  have hAt : Hd _ := hAt
  refine lv_istore_n (lv' := [(2, .int r_1), (0, .ref mm), (1, .int k)]) hx hb dX11_tied_5 rfl hl (by decide) rfl (fun ls hl => ?_)
  refine lv_aload_n hx hb dX11_tied_6 rfl (lv_at hl 1 rfl) ?_
  refine lv_iload_n hx hb dX11_tied_7 rfl (lv_at hl 0 rfl) ?_
  refine call_g (wr := []) (va_runV (As := [.int r_1]) (rest := []) ⟨hx, hb, hml, hown, hts⟩ (k_isGood3 l D cI cR cM _  (by first | assumption | omega) (h_1.imp id (fun q => q.1))) (cwV 1 hts gX11_tied_X11_isGood rfl rfl rfl (by decide +kernel) ⟨Nat.le_of_ble_eq_true rfl, Nat.le_of_ble_eq_true rfl⟩) (pre_V hK hP hD 0 11 rfl rfl) rfl rfl hl.1 rfl (lv_room (Nat.le_of_ble_eq_true rfl)) dX11_tied_8 ⟨Nat.le_of_ble_eq_true rfl, Nat.le_of_ble_eq_true rfl⟩) hP hD hS hA [0, 1, 2, 3, 4, 5, 6, 7, 8, 9, 10, 11, 12, 13, 14, 15, 16, 17, 18, 19, 20, 21, 22, 23, 24, 25] [] (by with_unfolding_all rfl) rfl (by decide) (by decide) (fun u_2 H locs hw hP hD hS => ?_)
  obtain ⟨r_2, y15_2, y16_2, g12_2⟩ := u_2
  have hP : va_P D vwCl (mX mm q jn cI x0 x1 x2 x3 x4 x5 x6 x7 x8 x9 x10 x11 x12 x13 x14 y15_2 y16_2 x17 x18 x19 x20 f0 f1 f2 f3 f4 f5 f6 f7 f8 f9 f10 f11 g12_2 f13 f14 f15 f16 f17 f18 f19 f20 f21 f22 f23 f24) H := hP
  have hD : va_D A (mX mm q jn cI x0 x1 x2 x3 x4 x5 x6 x7 x8 x9 x10 x11 x12 x13 x14 y15_2 y16_2 x17 x18 x19 x20 f0 f1 f2 f3 f4 f5 f6 f7 f8 f9 f10 f11 g12_2 f13 f14 f15 f16 f17 f18 f19 f20 f21 f22 f23 f24) := hD
  obtain ⟨h_2, hg_2, hs_2, hG_2, hN_2⟩ : (r_2.toInt = 0 ∨ r_2.toInt = 1) ∧ (r_2.toInt = 1 → 0 ≤ r_1.toInt) ∧ (r_2.toInt = 1 → y16_2.toInt = cy_S f0 r_1.toInt (6 * (f0 r_1.toInt.toNat).toInt).toNat) ∧ (r_2.toInt = 1 → cy_G f0 r_1.toInt (f0 r_1.toInt.toNat).toInt) ∧ (r_2.toInt = 0 → r_1.toInt = -1 ∨ ¬ cy_G f0 r_1.toInt (f0 r_1.toInt.toNat).toInt) := hw
  refine a_if_ne (u := r_2.toInt) (tgt := 16) hx hb dX11_tied_11 (by decide) (rfl) (fun c_3 => ?_) (fun c_3 => ?_)
  · obtain ⟨c0, c1, c2, c3, c4, c5⟩ := hAt.resolve_left (fun q9 => by have h8 := q9.1; have h7 := hg_2 (by omega); omega)
    have hz : ZX 1 f0 (r_1.toInt + 1) (f0 r_1.toInt.toNat).toInt := by have q9 := (h_1.resolve_left (by omega)).2; rw [hj1] at q9; exact q9
    have hGd := (cy_GW c4 hz (by omega)).mp (hG_2 (by omega))
    have hsr : ∀ b9 : Int, 0 ≤ b9 → b9 < (f0 r_1.toInt.toNat).toInt → Srt (Ev x1.toInt k.toInt).2 b9 := fun b9 h8 h9 => (hEO x1.toInt (by omega) (by omega) k.toInt c1.1 c1.2).2.2 b9 h8 (by omega)
    obtain ⟨so9, hso⟩ := SrcF_ex hGd
    obtain ⟨nx9, hnx⟩ := NxF_ex hso hGd hsr (by omega)
    refine lv_aload_n hx hb dX11_tied_16 rfl (lv_at hl 1 rfl) ?_
    refine lv_iload_n hx hb dX11_tied_17 rfl (lv_at hl 0 rfl) ?_
    refine call_g (wr := []) (va_runV (As := [.int r_1]) (rest := []) ⟨hx, hb, hml, hown, hts⟩ (k_tie3 l D cI cR cM _ (w := (Ev x1.toInt k.toInt).2) (so := so9) (nx := nx9) (by first | assumption | omega) ((h_1.resolve_left (by omega)).1) (hj1) (c4) ((h_1.resolve_left (by omega)).2) (hGd) (hso) (hsr) (hnx)) (cwV 1 hts gX11_tied_X11_tie rfl rfl rfl (by decide +kernel) ⟨Nat.le_of_ble_eq_true rfl, Nat.le_of_ble_eq_true rfl⟩) (pre_V hK hP hD 0 11 rfl rfl) rfl rfl hl.1 rfl (lv_room (Nat.le_of_ble_eq_true rfl)) dX11_tied_18 ⟨Nat.le_of_ble_eq_true rfl, Nat.le_of_ble_eq_true rfl⟩) hP hD hS hA [0, 1, 2, 3, 4, 5, 6, 7, 8, 9, 10, 11, 12, 13, 14, 15, 16, 17, 18, 19, 20, 21, 22, 23, 24, 25] [] (by with_unfolding_all rfl) rfl (by decide) (by decide) (fun u_4 H locs hw hP hD hS => ?_)
    obtain ⟨y17_4, g13_4, g14_4, g15_4, g16_4⟩ := u_4
    have hP : va_P D vwCl (mX mm q jn cI x0 x1 x2 x3 x4 x5 x6 x7 x8 x9 x10 x11 x12 x13 x14 y15_2 y16_2 y17_4 x18 x19 x20 f0 f1 f2 f3 f4 f5 f6 f7 f8 f9 f10 f11 g12_2 g13_4 g14_4 g15_4 g16_4 f17 f18 f19 f20 f21 f22 f23 f24) H := hP
    have hD : va_D A (mX mm q jn cI x0 x1 x2 x3 x4 x5 x6 x7 x8 x9 x10 x11 x12 x13 x14 y15_2 y16_2 y17_4 x18 x19 x20 f0 f1 f2 f3 f4 f5 f6 f7 f8 f9 f10 f11 g12_2 g13_4 g14_4 g15_4 g16_4 f17 f18 f19 f20 f21 f22 f23 f24) := hD
    obtain ⟨hL_4, hc_4⟩ : (Hd (∃ La : Int → Int, (∀ t9 : Int, 0 ≤ t9 → t9 < (2 * (f0 r_1.toInt.toNat).toInt) → (g15_4 (6 * (t9 / 2) + t9 % 2).toNat).toInt = La t9) ∧ LabP (Ev x1.toInt k.toInt).2 (2 * (f0 r_1.toInt.toNat).toInt) nx9 (2 * (f0 r_1.toInt.toNat).toInt) La y17_4.toInt)) ∧ (0 ≤ y17_4.toInt ∧ y17_4.toInt ≤ 144) := hw
    refine lv_iload_n hx hb dX11_tied_21 rfl (lv_at hl 0 rfl) ?_
    exact g_iret (r_1, y15_2, y16_2, y17_4, g12_2, g13_4, g14_4, g15_4, g16_4) hx hb hr hlocks hS rfl (⟨show r_1.toInt = -1 ∨ (IsRow jn f0 r_1.toInt ∧ ZX jn f0 (r_1.toInt + 1) (f0 r_1.toInt.toNat).toInt ∧ 0 ≤ y17_4.toInt ∧ y17_4.toInt ≤ 144) from (Or.inr ⟨(h_1.resolve_left (by omega)).1, (h_1.resolve_left (by omega)).2, hc_4⟩), show r_1.toInt ≤ 150 * (8 * x1.toInt + 7) from (by first | assumption | omega), show Hd ((r_1.toInt = -1 ∧ ¬ ((0 ≤ k.toInt ∧ k.toInt < 8) ∧ 0 < (Ev x1.toInt k.toInt).1 ∧ GdW (Ev x1.toInt k.toInt).2 (Ev x1.toInt k.toInt).1)) ∨ (0 ≤ r_1.toInt ∧ (0 ≤ k.toInt ∧ k.toInt < 8) ∧ 0 < (Ev x1.toInt k.toInt).1 ∧ (Ev x1.toInt k.toInt).1 = (f0 r_1.toInt.toNat).toInt ∧ RSo f0 (r_1.toInt + 1) (Ev x1.toInt k.toInt).2 (f0 r_1.toInt.toNat).toInt ∧ GdW (Ev x1.toInt k.toInt).2 (Ev x1.toInt k.toInt).1 ∧ ∃ La : Int → Int, (∀ t9 : Int, 0 ≤ t9 → t9 < 2 * (f0 r_1.toInt.toNat).toInt → (g15_4 (6 * (t9 / 2) + t9 % 2).toNat).toInt = La t9) ∧ DrL (Ev x1.toInt k.toInt).2 (Ev x1.toInt k.toInt).1 La y17_4.toInt)) from (by
      obtain ⟨La9, l1, l2⟩ := hL_4
      refine Or.inr ⟨c0, c1, c2, c3, c4, by rw [c3]; exact hGd, La9, l1, so9, by rw [c3]; exact hso, ?_⟩
      rw [c3]
      exact NxF_L hnx (SrcF_B hso hGd hsr) l2)⟩) hP hD hQ (Nat.le_of_ble_eq_true rfl) (Nat.le_of_ble_eq_true rfl) dX11_tied_22
  · refine lv_iconst (v := (-1)) hx hb dX11_tied_14 (by decide) ?_
    have hz_5 : (-1 : Int32).toInt = (-1) := by decide
    exact g_iret ((-1 : Int32), y15_2, y16_2, x17, g12_2, f13, f14, f15, f16) hx hb hr hlocks hS rfl (⟨show (-1 : Int32).toInt = -1 ∨ (IsRow jn f0 (-1 : Int32).toInt ∧ ZX jn f0 ((-1 : Int32).toInt + 1) (f0 (-1 : Int32).toInt.toNat).toInt ∧ 0 ≤ x17.toInt ∧ x17.toInt ≤ 144) from (Or.inl (by omega)), show (-1 : Int32).toInt ≤ 150 * (8 * x1.toInt + 7) from (by first | assumption | omega), show Hd (((-1 : Int32).toInt = -1 ∧ ¬ ((0 ≤ k.toInt ∧ k.toInt < 8) ∧ 0 < (Ev x1.toInt k.toInt).1 ∧ GdW (Ev x1.toInt k.toInt).2 (Ev x1.toInt k.toInt).1)) ∨ (0 ≤ (-1 : Int32).toInt ∧ (0 ≤ k.toInt ∧ k.toInt < 8) ∧ 0 < (Ev x1.toInt k.toInt).1 ∧ (Ev x1.toInt k.toInt).1 = (f0 (-1 : Int32).toInt.toNat).toInt ∧ RSo f0 ((-1 : Int32).toInt + 1) (Ev x1.toInt k.toInt).2 (f0 (-1 : Int32).toInt.toNat).toInt ∧ GdW (Ev x1.toInt k.toInt).2 (Ev x1.toInt k.toInt).1 ∧ ∃ La : Int → Int, (∀ t9 : Int, 0 ≤ t9 → t9 < 2 * (f0 (-1 : Int32).toInt.toNat).toInt → (f15 (6 * (t9 / 2) + t9 % 2).toNat).toInt = La t9) ∧ DrL (Ev x1.toInt k.toInt).2 (Ev x1.toInt k.toInt).1 La x17.toInt)) from (by
      refine Or.inl ⟨by decide, fun q9 => ?_⟩
      rcases hAt with ⟨c0, c1⟩ | ⟨c0, c1, c2, c3, c4, c5⟩
      · rcases c1 with c1 | ⟨c1, c2⟩
        · exact c1 q9.1
        · have h9 := q9.2.1; omega
      · have g3 := (hN_2 (by omega)).resolve_left (by omega)
        have hz : ZX 1 f0 (r_1.toInt + 1) (f0 r_1.toInt.toNat).toInt := by have q8 := (h_1.resolve_left (by omega)).2; rw [hj1] at q8; exact q8
        exact g3 ((cy_GW c4 hz (by omega)).mpr (by rw [← c3]; exact q9.2.2)))⟩) hP hD hQ (Nat.le_of_ble_eq_true rfl) (Nat.le_of_ble_eq_true rfl) dX11_tied_15
