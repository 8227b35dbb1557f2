set_option maxRecDepth 100000 in
set_option maxHeartbeats 4000000 in
theorem k_tie3 (l : Launch) (D : va_G) (cI cR cM : ClassId) (sz : Nat) {jn mm : Nat} {q : Nat → Nat} {x0 x1 x2 x3 x4 x5 x6 x7 x8 x9 x10 x11 x12 x13 x14 x15 x16 x17 x18 x19 x20 : Int32} {f0 f1 f2 f3 f4 f5 f6 f7 f8 f9 f10 f11 f12 f13 f14 f15 f16 f17 f18 f19 f20 f21 f22 f23 f24 : Nat → Int32} {a : Int32} {w so nx : Int → Int} (hj : 1 ≤ jn ∧ jn ≤ 3) (hrow9 : IsRow jn f0 a.toInt) (hj1 : jn = 1) (hrs : RSo f0 (a.toInt + 1) w (f0 a.toInt.toNat).toInt) (hZ9 : ZX jn f0 (a.toInt + 1) (f0 a.toInt.toNat).toInt) (hGd : GdW w (f0 a.toInt.toNat).toInt) (hSF : SrcF w (f0 a.toInt.toNat).toInt so) (hsr : ∀ b9 : Int, 0 ≤ b9 → b9 < (f0 a.toInt.toNat).toInt → Srt w b9) (hNx : NxF w (2 * (f0 a.toInt.toNat).toInt) so nx) : Met l yX11_tie wsX11_tie ({ frames := 3, cells := 0, slots := 0, locals := 75 }) (P0 D cI cR cM [.ref mm, .int a] sz (mX mm q jn cI x0 x1 x2 x3 x4 x5 x6 x7 x8 x9 x10 x11 x12 x13 x14 x15 x16 x17 x18 x19 x20 f0 f1 f2 f3 f4 f5 f6 f7 f8 f9 f10 f11 f12 f13 f14 f15 f16 f17 f18 f19 f20 f21 f22 f23 f24)) (QG (S := Int32 × (Nat → Int32) × (Nat → Int32) × (Nat → Int32) × (Nat → Int32)) (fun u => none) (fun u => mX mm q jn cI x0 x1 x2 x3 x4 x5 x6 x7 x8 x9 x10 x11 x12 x13 x14 x15 x16 (u.1) x18 x19 x20 f0 f1 f2 f3 f4 f5 f6 f7 f8 f9 f10 f11 f12 (u.2.1) (u.2.2.1) (u.2.2.2.1) (u.2.2.2.2) f17 f18 f19 f20 f21 f22 f23 f24) (fun u => (Hd (∃ La : Int → Int, (∀ t9 : Int, 0 ≤ t9 → t9 < (2 * (f0 a.toInt.toNat).toInt) → (u.2.2.2.1 (6 * (t9 / 2) + t9 % 2).toNat).toInt = La t9) ∧ LabP w (2 * (f0 a.toInt.toNat).toInt) nx (2 * (f0 a.toInt.toNat).toInt) La u.1.toInt)) ∧ (0 ≤ u.1.toInt ∧ u.1.toInt ≤ 144)) D (va_A (mX mm q jn cI x0 x1 x2 x3 x4 x5 x6 x7 x8 x9 x10 x11 x12 x13 x14 x15 x16 x17 x18 x19 x20 f0 f1 f2 f3 f4 f5 f6 f7 f8 f9 f10 f11 f12 f13 f14 f15 f16 f17 f18 f19 f20 f21 f22 f23 f24) sz)) 0 0 (va_A (mX mm q jn cI x0 x1 x2 x3 x4 x5 x6 x7 x8 x9 x10 x11 x12 x13 x14 x15 x16 x17 x18 x19 x20 f0 f1 f2 f3 f4 f5 f6 f7 f8 f9 f10 f11 f12 f13 f14 f15 f16 f17 f18 f19 f20 f21 f22 f23 f24) sz) := by
  refine go (cc := cX11_tie) (maxL := 8) (ret := none) (by decide) rfl (Nat.le_of_ble_eq_true rfl) ?_
  intro p e s m below meth c ls args Q hQ hsz hx hb hr hml hts hown hlocks hnm hP hK hD hl
  subst hsz
  have hD := hD.self (sz := s.heap.size)
  generalize hAe : va_A (mX mm q jn cI x0 x1 x2 x3 x4 x5 x6 x7 x8 x9 x10 x11 x12 x13 x14 x15 x16 x17 x18 x19 x20 f0 f1 f2 f3 f4 f5 f6 f7 f8 f9 f10 f11 f12 f13 f14 f15 f16 f17 f18 f19 f20 f21 f22 f23 f24) s.heap.size = A at hD hQ
  have hA : ∀ q, s.heap.size ≤ q → A q := fun q h => by rw [← hAe]; exact Or.inr h
  have hS : va_S A s.heap s.heap [] := va_S.rf
  have hl : lv_has ls 8 [(0, .ref mm), (1, .int a)] := hl
  have hr0 := hrow9
  obtain ⟨hr1, hr2, hr3, hr4, hr5, hr6⟩ := hrow9
  have hBj := SrcF_B hSF hGd hsr
  have hBn := NxF_B hNx
  refine lv_aload_n hx hb dX11_tie_0 rfl (lv_at hl 0 rfl) ?_
  refine va_get (D := D) (ci := 11) (v := .ref (q 0)) (C := RX11) (T := TX11) (N := 47) hx hb hts (by decide +kernel) hown hK.1 hP 0 rfl rfl 1 (by decide) (hts (.fieldLink RX11 8 "JugglingHallModel" "rows" "[I") (by decide +kernel)) (fun _ h9 => h9) rfl dX11_tie_1 ?_
  refine lv_iload_n hx hb dX11_tie_4 rfl (lv_at hl 1 rfl) ?_
  refine a_iald (f := f0) (u := a.toInt) hx hb hK.1 hP 1 0 rfl rfl dX11_tie_5 (rfl) (by omega) (fun z_1 q_1 e_1 => ?_)
  have hn9 : z_1.toInt = (f0 a.toInt.toNat).toInt := e_1
  refine lv_istore_n (lv' := [(2, .int z_1), (0, .ref mm), (1, .int a)]) hx hb dX11_tie_6 rfl hl (by decide) rfl (fun ls hl => ?_)
  refine lv_iconst (v := 0) hx hb dX11_tie_7 (by decide) ?_
  refine lv_istore_n (lv' := [(3, .int 0), (2, .int z_1), (0, .ref mm), (1, .int a)]) hx hb dX11_tie_8 rfl hl (by decide) rfl (fun ls hl => ?_)
  have loop9 : ∀ (ddloop9 : Nat) (t : Int32) (ga : (Nat → Int32)) (gb : (Nat → Int32)) (gc : (Nat → Int32)) (H : Heap) (locs : List Loc) (ls : Array Slot), (6 * (f0 a.toInt.toNat).toInt - t.toInt).toNat < ddloop9 → (0 ≤ t.toInt ∧ t.toInt ≤ 6 * (f0 a.toInt.toNat).toInt) → (∀ t9 : Int, 0 ≤ t9 → t9 < t.toInt → (gc t9.toNat).toInt = -1) → va_P D vwCl (mX mm q jn cI x0 x1 x2 x3 x4 x5 x6 x7 x8 x9 x10 x11 x12 x13 x14 x15 x16 x17 x18 x19 x20 f0 f1 f2 f3 f4 f5 f6 f7 f8 f9 f10 f11 f12 ga gb gc f16 f17 f18 f19 f20 f21 f22 f23 f24) H → va_D A (mX mm q jn cI x0 x1 x2 x3 x4 x5 x6 x7 x8 x9 x10 x11 x12 x13 x14 x15 x16 x17 x18 x19 x20 f0 f1 f2 f3 f4 f5 f6 f7 f8 f9 f10 f11 f12 ga gb gc f16 f17 f18 f19 f20 f21 f22 f23 f24) → va_S A s.heap H locs → lv_has ls 8 [(0, .ref mm), (1, .int a), (2, .int z_1), (3, .int t)] → W p l e ({ frames := 3, cells := 0, slots := 0, locals := 75 }) s m args below meth c H locs 0 0 Q (F0 m 9 ls []) := by
    intro ddloop9
    induction ddloop9 with
    | zero =>
      intro t ga gb gc H locs ls hdd
      exact absurd hdd (Nat.not_lt_zero _)
    | succ ddloop9 ih9 =>
      intro t ga gb gc H locs ls hdd ht hng hP hD hS hl
      refine lv_iload_n hx hb dX11_tie_9 rfl (lv_at hl 3 rfl) ?_
      refine lv_bipush (v := 6) hx hb dX11_tie_10 (by decide) ?_
      refine lv_iload_n hx hb dX11_tie_12 rfl (lv_at hl 2 rfl) ?_
      refine a_imul (u := 6) (v := z_1.toInt) hx hb dX11_tie_13 (by decide) (rfl) (by omega) (fun z_2 e_2 => ?_)
      refine a_icmp_ge (u := t.toInt) (v := (6 * z_1.toInt)) (tgt := 44) hx hb dX11_tie_14 (by decide) (rfl) (e_2) (fun c_3 => ?_) (fun c_3 => ?_)
      · refine lv_iconst (v := 0) hx hb dX11_tie_44 (by decide) ?_
        refine lv_istore_n (lv' := [(3, .int 0), (0, .ref mm), (1, .int a), (2, .int z_1)]) hx hb dX11_tie_45 rfl hl (by decide) rfl (fun ls hl => ?_)
        have loop46 : ∀ (ddloop46 : Nat) (i : Int32) (gd : (Nat → Int32)) (ge : (Nat → Int32)) (gf : (Nat → Int32)) (H : Heap) (locs : List Loc) (ls : Array Slot), ((f0 a.toInt.toNat).toInt - i.toInt).toNat < ddloop46 → (0 ≤ i.toInt ∧ i.toInt ≤ (f0 a.toInt.toNat).toInt) → (∀ t9 : Int, Th w (2 * (f0 a.toInt.toNat).toInt) t9 → (t9 / 2 < i.toInt) → (gd (6 * (so t9 / 2) + so t9 % 2).toNat).toInt = (6 * (t9 / 2) + t9 % 2)) → va_P D vwCl (mX mm q jn cI x0 x1 x2 x3 x4 x5 x6 x7 x8 x9 x10 x11 x12 x13 x14 x15 x16 x17 x18 x19 x20 f0 f1 f2 f3 f4 f5 f6 f7 f8 f9 f10 f11 f12 gd ge gc gf f17 f18 f19 f20 f21 f22 f23 f24) H → va_D A (mX mm q jn cI x0 x1 x2 x3 x4 x5 x6 x7 x8 x9 x10 x11 x12 x13 x14 x15 x16 x17 x18 x19 x20 f0 f1 f2 f3 f4 f5 f6 f7 f8 f9 f10 f11 f12 gd ge gc gf f17 f18 f19 f20 f21 f22 f23 f24) → va_S A s.heap H locs → lv_has ls 8 [(0, .ref mm), (1, .int a), (2, .int z_1), (3, .int i)] → W p l e ({ frames := 3, cells := 0, slots := 0, locals := 75 }) s m args below meth c H locs 0 0 Q (F0 m 46 ls []) := by
          intro ddloop46
          induction ddloop46 with
          | zero =>
            intro i gd ge gf H locs ls hdd
            exact absurd hdd (Nat.not_lt_zero _)
          | succ ddloop46 ih46 =>
            intro i gd ge gf H locs ls hdd hi hGO hP hD hS hl
            refine lv_iload_n hx hb dX11_tie_46 rfl (lv_at hl 3 rfl) ?_
            refine lv_iload_n hx hb dX11_tie_47 rfl (lv_at hl 2 rfl) ?_
            refine a_icmp_ge (u := i.toInt) (v := z_1.toInt) (tgt := 143) hx hb dX11_tie_48 (by decide) (rfl) (rfl) (fun c_4 => ?_) (fun c_4 => ?_)
            · have hGO9 : ∀ u9 : Int, Th w (2 * (f0 a.toInt.toNat).toInt) u9 → (gd (6 * (u9 / 2) + u9 % 2).toNat).toInt = (6 * (nx u9 / 2) + nx u9 % 2) := fun u9 h9 => by
                have h8 := hNx.1 u9 h9
                have h7 := hGO (nx u9) h8.1 (by have := h8.1.2.1; omega)
                rw [h8.2] at h7
                exact h7
              refine lv_aload_n hx hb dX11_tie_143 rfl (lv_at hl 0 rfl) ?_
              refine lv_iconst (v := 0) hx hb dX11_tie_144 (by decide) ?_
              refine mp_17 hx hb hts (by decide +kernel) hown hK hP hD hS (hts (.fieldLink RX11 268 "JugglingHallModel" "cycleCount" "I") (by decide +kernel)) dX11_tie_145 (fun H locs hP hD hS => ?_)
              refine lv_iconst (v := 0) hx hb dX11_tie_148 (by decide) ?_
              refine lv_istore_n (lv' := [(3, .int 0), (0, .ref mm), (1, .int a), (2, .int z_1)]) hx hb dX11_tie_149 rfl hl (by decide) rfl (fun ls hl => ?_)
              have loop150 : ∀ (ddloop150 : Nat) (t2 : Int32) (c17 : Int32) (gl : (Nat → Int32)) (H : Heap) (locs : List Loc) (ls : Array Slot), (6 * (f0 a.toInt.toNat).toInt - t2.toInt).toNat < ddloop150 → (0 ≤ t2.toInt ∧ t2.toInt ≤ 6 * (f0 a.toInt.toNat).toInt) → (0 ≤ c17.toInt ∧ c17.toInt ≤ t2.toInt) → (∀ t9 : Int, 0 ≤ t9 → t9 < 6 * (f0 a.toInt.toNat).toInt → (gl t9.toNat).toInt = -1 ∨ 0 ≤ (gl t9.toNat).toInt) → (Hd (∃ La : Int → Int, (∀ t9 : Int, 0 ≤ t9 → t9 < (2 * (f0 a.toInt.toNat).toInt) → (gl (6 * (t9 / 2) + t9 % 2).toNat).toInt = La t9) ∧ LabP w (2 * (f0 a.toInt.toNat).toInt) nx (T6 t2.toInt) La c17.toInt)) → va_P D vwCl (mX mm q jn cI x0 x1 x2 x3 x4 x5 x6 x7 x8 x9 x10 x11 x12 x13 x14 x15 x16 c17 x18 x19 x20 f0 f1 f2 f3 f4 f5 f6 f7 f8 f9 f10 f11 f12 gd ge gl gf f17 f18 f19 f20 f21 f22 f23 f24) H → va_D A (mX mm q jn cI x0 x1 x2 x3 x4 x5 x6 x7 x8 x9 x10 x11 x12 x13 x14 x15 x16 c17 x18 x19 x20 f0 f1 f2 f3 f4 f5 f6 f7 f8 f9 f10 f11 f12 gd ge gl gf f17 f18 f19 f20 f21 f22 f23 f24) → va_S A s.heap H locs → lv_has ls 8 [(0, .ref mm), (1, .int a), (2, .int z_1), (3, .int t2)] → W p l e ({ frames := 3, cells := 0, slots := 0, locals := 75 }) s m args below meth c H locs 0 0 Q (F0 m 150 ls []) := by
                intro ddloop150
                induction ddloop150 with
                | zero =>
                  intro t2 c17 gl H locs ls hdd
                  exact absurd hdd (Nat.not_lt_zero _)
                | succ ddloop150 ih150 =>
                  intro t2 c17 gl H locs ls hdd ht2 hc17 hng2 hLb hP hD hS hl
                  obtain ⟨La, yL1, yL2⟩ := hLb
                  refine lv_iload_n hx hb dX11_tie_150 rfl (lv_at hl 3 rfl) ?_
                  refine lv_bipush (v := 6) hx hb dX11_tie_151 (by decide) ?_
                  refine lv_iload_n hx hb dX11_tie_153 rfl (lv_at hl 2 rfl) ?_
                  refine a_imul (u := 6) (v := z_1.toInt) hx hb dX11_tie_154 (by decide) (rfl) (by omega) (fun z_5 e_5 => ?_)
                  refine a_icmp_ge (u := t2.toInt) (v := (6 * z_1.toInt)) (tgt := 231) hx hb dX11_tie_155 (by decide) (rfl) (e_5) (fun c_6 => ?_) (fun c_6 => ?_)
                  · exact g_vret (c17, gd, ge, gl, gf) hx hb hr hlocks hS rfl (⟨show Hd (∃ La : Int → Int, (∀ t9 : Int, 0 ≤ t9 → t9 < (2 * (f0 a.toInt.toNat).toInt) → (gl (6 * (t9 / 2) + t9 % 2).toNat).toInt = La t9) ∧ LabP w (2 * (f0 a.toInt.toNat).toInt) nx (2 * (f0 a.toInt.toNat).toInt) La c17.toInt) from (⟨La, yL1, by rw [show t2.toInt = 6 * (f0 a.toInt.toNat).toInt by omega, T6_e] at yL2; exact yL2⟩), show 0 ≤ c17.toInt ∧ c17.toInt ≤ 144 from (by first | assumption | omega)⟩) hP hD hQ (Nat.le_of_ble_eq_true rfl) (Nat.le_of_ble_eq_true rfl) dX11_tie_231
                  · refine lv_aload_n hx hb dX11_tie_158 rfl (lv_at hl 0 rfl) ?_
                    refine lv_iload_n hx hb dX11_tie_159 rfl (lv_at hl 1 rfl) ?_
                    refine lv_iload_n hx hb dX11_tie_160 rfl (lv_at hl 3 rfl) ?_
                    refine roP (va_runV (As := [.int a, .int t2]) (rest := []) ⟨hx, hb, hml, hown, hts⟩ (k_heightOf2 l D cI cR cM _  (by first | assumption | omega) (hr0) (by first | assumption | omega)) (cwV 2 hts gX11_tie_X11_heightOf rfl rfl rfl (by decide +kernel) ⟨Nat.le_of_ble_eq_true rfl, Nat.le_of_ble_eq_true rfl⟩) (pre_V hK hP hD 0 11 rfl rfl) rfl rfl hl.1 rfl (lv_room (Nat.le_of_ble_eq_true rfl)) dX11_tie_161 ⟨Nat.le_of_ble_eq_true rfl, Nat.le_of_ble_eq_true rfl⟩) hS hA hP (fun r_7 H locs hw hP hS => ?_)
                    obtain ⟨h_7, hb_7⟩ : (r_7.toInt = cy_h f0 a.toInt t2.toInt) ∧ (0 ≤ r_7.toInt ∧ r_7.toInt ≤ 9) := hw
                    have hh9 : r_7.toInt = cy_h f0 a.toInt t2.toInt := h_7
                    refine a_if_eq (u := r_7.toInt) (tgt := 225) hx hb dX11_tie_164 (by decide) (rfl) (fun c_8 => ?_) (fun c_8 => ?_)
                    · obtain ⟨z_9, q_9, e_9⟩ := i_inc (a := t2.toInt) (1) (rfl) (by decide) (by omega) (by omega)
                      refine lv_iinc (v := z_9) (lv' := [(3, .int z_9), (0, .ref mm), (1, .int a), (2, .int z_1)]) hx hb dX11_tie_225 hl (k := 3) rfl q_9 (by decide) rfl (fun ls hl => ?_)
                      refine lv_goto (tgt := 150) hx hb dX11_tie_228 (by decide) ?_
                      exact ih150 z_9 c17 gl _ _ _ (by omega) (by first | assumption | omega) (by first | assumption | omega) (hng2) (by
                        rw [show z_9.toInt = t2.toInt + 1 by omega]
                        by_cases q9 : t2.toInt % 6 < 2
                        · obtain ⟨u1, u2, u3⟩ := T6_u (n := (f0 a.toInt.toNat).toInt) q9 (by omega) (by omega)
                          rw [T6_s q9]
                          exact ⟨La, yL1, LabP_n yL2 (fun _ q8 => absurd (by rw [← (rh_T hrs (by omega) (by omega) q9).1]; omega) q8)⟩
                        · rw [T6_n q9]; exact ⟨La, yL1, yL2⟩) hP hD hS (lv_sub hl [1, 2, 3, 0] rfl)
                    · have hh : cy_h f0 a.toInt t2.toInt ≠ 0 := by omega
                      have hq6 := rh_u (n := (f0 a.toInt.toNat).toInt) (by rw [← hj1]; exact hZ9) (by omega) (by omega) hh
                      obtain ⟨hT1, hT2, hT3⟩ := T6_u (n := (f0 a.toInt.toNat).toInt) hq6 (by omega) (by omega)
                      have hTT : Th w (2 * (f0 a.toInt.toNat).toInt) (T6 t2.toInt) := ⟨hT1, hT2, by rw [← (rh_T hrs (by omega) (by omega) hq6).1]; exact hh⟩
                      refine lv_aload_n hx hb dX11_tie_167 rfl (lv_at hl 0 rfl) ?_
                      refine va_get (D := D) (ci := 11) (v := .ref (q 15)) (C := RX11) (T := TX11) (N := 47) hx hb hts (by decide +kernel) hown hK.1 hP 0 rfl rfl 33 (by decide) (hts (.fieldLink RX11 63 "JugglingHallModel" "cycleAt" "[I") (by decide +kernel)) (fun _ h9 => h9) rfl dX11_tie_168 ?_
                      refine lv_iload_n hx hb dX11_tie_171 rfl (lv_at hl 3 rfl) ?_
                      refine a_iald (f := gl) (u := t2.toInt) hx hb hK.1 hP 16 0 rfl rfl dX11_tie_172 (rfl) (by omega) (fun z_10 q_10 e_10 => ?_)
                      refine a_if_lt (u := z_10.toInt) (tgt := 179) hx hb dX11_tie_173 (by decide) (rfl) (fun c_11 => ?_) (fun c_11 => ?_)
                      · have hLT : La (T6 t2.toInt) = -1 := by
                          have h9 := yL1 (T6 t2.toInt) hT1 hT2
                          rw [hT3, ← q_10] at h9
                          have h8 := hng2 t2.toInt (by omega) (by omega)
                          rw [← q_10] at h8
                          omega
                        refine lv_iload_n hx hb dX11_tie_179 rfl (lv_at hl 3 rfl) ?_
                        refine lv_istore (lv' := [(4, .int t2), (0, .ref mm), (1, .int a), (2, .int z_1), (3, .int t2)]) hx hb dX11_tie_180 hl (by decide) rfl (fun ls hl => ?_)
                        have loop182 : ∀ (ddloop182 : Nat) (u : Int32) (gm : (Nat → Int32)) (H : Heap) (locs : List Loc) (ls : Array Slot), (6 * (f0 a.toInt.toNat).toInt - (cntM gm (6 * (f0 a.toInt.toNat).toInt).toNat : Int)).toNat < ddloop182 → (Hd (∃ (L19 : Int → Int) (U9 : Int), u.toInt = (6 * (U9 / 2) + U9 % 2) ∧ (∀ t9 : Int, 0 ≤ t9 → t9 < (2 * (f0 a.toInt.toNat).toInt) → (gm (6 * (t9 / 2) + t9 % 2).toNat).toInt = L19 t9) ∧ LabI w (2 * (f0 a.toInt.toNat).toInt) nx (T6 t2.toInt) La c17.toInt L19 U9)) → (∀ t9 : Int, 0 ≤ t9 → t9 < 6 * (f0 a.toInt.toNat).toInt → (gm t9.toNat).toInt = -1 ∨ 0 ≤ (gm t9.toNat).toInt) → va_P D vwCl (mX mm q jn cI x0 x1 x2 x3 x4 x5 x6 x7 x8 x9 x10 x11 x12 x13 x14 x15 x16 c17 x18 x19 x20 f0 f1 f2 f3 f4 f5 f6 f7 f8 f9 f10 f11 f12 gd ge gm gf f17 f18 f19 f20 f21 f22 f23 f24) H → va_D A (mX mm q jn cI x0 x1 x2 x3 x4 x5 x6 x7 x8 x9 x10 x11 x12 x13 x14 x15 x16 c17 x18 x19 x20 f0 f1 f2 f3 f4 f5 f6 f7 f8 f9 f10 f11 f12 gd ge gm gf f17 f18 f19 f20 f21 f22 f23 f24) → va_S A s.heap H locs → lv_has ls 8 [(0, .ref mm), (1, .int a), (2, .int z_1), (3, .int t2), (4, .int u)] → W p l e ({ frames := 3, cells := 0, slots := 0, locals := 75 }) s m args below meth c H locs 0 0 Q (F0 m 182 ls []) := by
                          intro ddloop182
                          induction ddloop182 with
                          | zero =>
                            intro u gm H locs ls hdd
                            exact absurd hdd (Nat.not_lt_zero _)
                          | succ ddloop182 ih182 =>
                            intro u gm H locs ls hdd hu9 hng3 hP hD hS hl
                            obtain ⟨L19, U9, yM2, yM1, yM3⟩ := hu9
                            have hU := yM3.2.2.1.1
                            have hU1 := hU.1
                            have hU2 := hU.2.1
                            have hu1 : 0 ≤ u.toInt := by omega
                            have hu2 : u.toInt < 6 * (f0 a.toInt.toNat).toInt := by omega
                            refine lv_aload_n hx hb dX11_tie_182 rfl (lv_at hl 0 rfl) ?_
                            refine va_get (D := D) (ci := 11) (v := .ref (q 15)) (C := RX11) (T := TX11) (N := 47) hx hb hts (by decide +kernel) hown hK.1 hP 0 rfl rfl 33 (by decide) (hts (.fieldLink RX11 63 "JugglingHallModel" "cycleAt" "[I") (by decide +kernel)) (fun _ h9 => h9) rfl dX11_tie_183 ?_
                            refine lv_iload hx hb dX11_tie_186 (lv_at hl 4 rfl) ?_
                            refine a_iald (f := gm) (u := u.toInt) hx hb hK.1 hP 16 0 rfl rfl dX11_tie_188 (rfl) (by omega) (fun z_12 q_12 e_12 => ?_)
                            refine a_if_ge (u := z_12.toInt) (tgt := 215) hx hb dX11_tie_189 (by decide) (rfl) (fun c_13 => ?_) (fun c_13 => ?_)
                            · refine lv_aload_n hx hb dX11_tie_215 rfl (lv_at hl 0 rfl) ?_
                              refine lv_dup hx hb dX11_tie_216 rfl ?_
                              refine va_get (D := D) (ci := 11) (v := .int c17) (C := RX11) (T := TX11) (N := 47) hx hb hts (by decide +kernel) hown hK.1 hP 0 rfl rfl 35 (by decide) (hts (.fieldLink RX11 268 "JugglingHallModel" "cycleCount" "I") (by decide +kernel)) (fun _ h9 => h9) rfl dX11_tie_217 ?_
                              refine lv_iconst (v := 1) hx hb dX11_tie_220 (by decide) ?_
                              refine a_iadd (u := c17.toInt) (v := 1) hx hb dX11_tie_221 (rfl) (by decide) (by omega) (fun z_14 e_14 => ?_)
                              refine mp_17 hx hb hts (by decide +kernel) hown hK hP hD hS (hts (.fieldLink RX11 268 "JugglingHallModel" "cycleCount" "I") (by decide +kernel)) dX11_tie_222 (fun H locs hP hD hS => ?_)
                              obtain ⟨z_15, q_15, e_15⟩ := i_inc (a := t2.toInt) (1) (rfl) (by decide) (by omega) (by omega)
                              refine lv_iinc (v := z_15) (lv' := [(3, .int z_15), (0, .ref mm), (1, .int a), (2, .int z_1), (4, .int u)]) hx hb dX11_tie_225 hl (k := 3) rfl q_15 (by decide) rfl (fun ls hl => ?_)
                              refine lv_goto (tgt := 150) hx hb dX11_tie_228 (by decide) ?_
                              exact ih150 z_15 z_14 gm _ _ _ (by omega) (by first | assumption | omega) (by first | assumption | omega) (hng3) (by
                                rw [show z_15.toInt = t2.toInt + 1 by omega, T6_s hq6, show z_14.toInt = c17.toInt + 1 by omega]
                                have h9 := yM1 U9 hU1 hU2
                                rw [← yM2, ← q_12] at h9
                                have h8 := (LabI_v yM3).resolve_left (by omega)
                                exact ⟨L19, yM1, LabI_e yL2 hBn yM3 h8 hTT hLT⟩) hP hD hS (lv_sub hl [1, 2, 3, 0] rfl)
                            · refine lv_aload_n hx hb dX11_tie_192 rfl (lv_at hl 0 rfl) ?_
                              refine va_get (D := D) (ci := 11) (v := .ref (q 15)) (C := RX11) (T := TX11) (N := 47) hx hb hts (by decide +kernel) hown hK.1 hP 0 rfl rfl 33 (by decide) (hts (.fieldLink RX11 63 "JugglingHallModel" "cycleAt" "[I") (by decide +kernel)) (fun _ h9 => h9) rfl dX11_tie_193 ?_
                              refine lv_iload hx hb dX11_tie_196 (lv_at hl 4 rfl) ?_
                              refine lv_aload_n hx hb dX11_tie_198 rfl (lv_at hl 0 rfl) ?_
                              refine va_get (D := D) (ci := 11) (v := .int c17) (C := RX11) (T := TX11) (N := 47) hx hb hts (by decide +kernel) hown hK.1 hP 0 rfl rfl 35 (by decide) (hts (.fieldLink RX11 268 "JugglingHallModel" "cycleCount" "I") (by decide +kernel)) (fun _ h9 => h9) rfl dX11_tie_199 ?_
                              refine ma_15 (u := u.toInt) hx hb hK hP hD hS dX11_tie_202 (rfl) (by omega) (fun g_16 H locs eg_16 hP hD hS => ?_)
                              have hcn : cntM g_16 (6 * (f0 a.toInt.toNat).toInt).toNat = cntM gm (6 * (f0 a.toInt.toNat).toInt).toNat + 1 := by rw [eg_16]; exact cntM_upd (by omega) (cy_m1 ((hng3 u.toInt hu1 hu2).resolve_right (by omega))) (cy_n1 (by omega))
                              have hcl := cntM_le g_16 (6 * (f0 a.toInt.toNat).toInt).toNat
                              refine lv_aload_n hx hb dX11_tie_203 rfl (lv_at hl 0 rfl) ?_
                              refine va_get (D := D) (ci := 11) (v := .ref (q 13)) (C := RX11) (T := TX11) (N := 47) hx hb hts (by decide +kernel) hown hK.1 hP 0 rfl rfl 31 (by decide) (hts (.fieldLink RX11 57 "JugglingHallModel" "goesOn" "[I") (by decide +kernel)) (fun _ h9 => h9) rfl dX11_tie_204 ?_
                              refine lv_iload hx hb dX11_tie_207 (lv_at hl 4 rfl) ?_
                              refine a_iald (f := gd) (u := u.toInt) hx hb hK.1 hP 14 0 rfl rfl dX11_tie_209 (rfl) (by omega) (fun z_17 q_17 e_17 => ?_)
                              refine lv_istore (lv' := [(4, .int z_17), (0, .ref mm), (1, .int a), (2, .int z_1), (3, .int t2)]) hx hb dX11_tie_210 hl (by decide) rfl (fun ls hl => ?_)
                              refine lv_goto (tgt := 182) hx hb dX11_tie_212 (by decide) ?_
                              exact ih182 z_17 g_16 _ _ _ (by omega) (by
                                have h9 := yM1 U9 hU1 hU2
                                rw [← yM2, ← q_12] at h9
                                refine ⟨fupd L19 U9 c17.toInt, nx U9, ?_, fun t9 h7 h8 => ?_, LabI_s yL2 hBn yM3 (by omega) fu_s (fun v9 h8 => fu_n h8)⟩
                                · rw [q_17, yM2]; exact hGO9 U9 hU
                                · by_cases q9 : t9 = U9
                                  · rw [eg_16, q9, ← yM2, pk_us, fu_s]
                                  · rw [eg_16, un_i (by omega) (by omega) (by omega), fu_n q9]; exact yM1 t9 h7 h8) (fun t9 h8 h9 => by
                                by_cases q : t9 = u.toInt
                                · rw [eg_16, q, pk_us]; exact Or.inr (by omega)
                                · rw [eg_16, un_i h8 (by omega) q]; exact hng3 t9 h8 h9) hP hD hS (lv_sub hl [1, 2, 3, 4, 0] rfl)
                        exact loop182 ((6 * (f0 a.toInt.toNat).toInt - (cntM gl (6 * (f0 a.toInt.toNat).toInt).toNat : Int)).toNat + 1) t2 gl _ _ _ (by omega) (⟨La, T6 t2.toInt, by omega, yL1, LabI_0 yL2 hTT hLT⟩) (hng2) hP hD hS (lv_sub hl [1, 2, 3, 4, 0] rfl)
                      · refine lv_goto (tgt := 225) hx hb dX11_tie_176 (by decide) ?_
                        obtain ⟨z_18, q_18, e_18⟩ := i_inc (a := t2.toInt) (1) (rfl) (by decide) (by omega) (by omega)
                        refine lv_iinc (v := z_18) (lv' := [(3, .int z_18), (0, .ref mm), (1, .int a), (2, .int z_1)]) hx hb dX11_tie_225 hl (k := 3) rfl q_18 (by decide) rfl (fun ls hl => ?_)
                        refine lv_goto (tgt := 150) hx hb dX11_tie_228 (by decide) ?_
                        exact ih150 z_18 c17 gl _ _ _ (by omega) (by first | assumption | omega) (by first | assumption | omega) (hng2) (by
                          rw [show z_18.toInt = t2.toInt + 1 by omega, T6_s hq6]
                          exact ⟨La, yL1, LabP_n yL2 (fun _ _ => by have h9 := yL1 (T6 t2.toInt) hT1 hT2; rw [hT3, ← q_10] at h9; omega)⟩) hP hD hS (lv_sub hl [1, 2, 3, 0] rfl)
              have hz_19 : (0 : Int32).toInt = 0 := by decide
              have hz_20 : (0 : Int32).toInt = 0 := by decide
              exact loop150 ((6 * (f0 a.toInt.toNat).toInt - (0 : Int32).toInt).toNat + 1) (0 : Int32) (0 : Int32) gc _ _ _ (by omega) (by first | assumption | omega) (by first | assumption | omega) (fun t9 h8 h9 => Or.inl (hng t9 h8 (by omega))) (⟨fun _ => -1, fun t9 h8 h9 => hng _ (by omega) (by omega), by rw [z32, T6_0]; exact LabP_0⟩) hP hD hS (lv_sub hl [1, 2, 3, 0] rfl)
            · refine lv_iconst (v := 0) hx hb dX11_tie_51 (by decide) ?_
              refine lv_istore (lv' := [(4, .int 0), (0, .ref mm), (1, .int a), (2, .int z_1), (3, .int i)]) hx hb dX11_tie_52 hl (by decide) rfl (fun ls hl => ?_)
              have loop54 : ∀ (ddloop54 : Nat) (j : Int32) (gg : (Nat → Int32)) (gh : (Nat → Int32)) (gi : (Nat → Int32)) (H : Heap) (locs : List Loc) (ls : Array Slot), ((jn : Int) - j.toInt).toNat < ddloop54 → (0 ≤ j.toInt ∧ j.toInt ≤ (jn : Int)) → (∀ t9 : Int, Th w (2 * (f0 a.toInt.toNat).toInt) t9 → (t9 / 2 < i.toInt ∨ (j.toInt = 1 ∧ t9 / 2 = i.toInt)) → (gg (6 * (so t9 / 2) + so t9 % 2).toNat).toInt = (6 * (t9 / 2) + t9 % 2)) → va_P D vwCl (mX mm q jn cI x0 x1 x2 x3 x4 x5 x6 x7 x8 x9 x10 x11 x12 x13 x14 x15 x16 x17 x18 x19 x20 f0 f1 f2 f3 f4 f5 f6 f7 f8 f9 f10 f11 f12 gg gh gc gi f17 f18 f19 f20 f21 f22 f23 f24) H → va_D A (mX mm q jn cI x0 x1 x2 x3 x4 x5 x6 x7 x8 x9 x10 x11 x12 x13 x14 x15 x16 x17 x18 x19 x20 f0 f1 f2 f3 f4 f5 f6 f7 f8 f9 f10 f11 f12 gg gh gc gi f17 f18 f19 f20 f21 f22 f23 f24) → va_S A s.heap H locs → lv_has ls 8 [(0, .ref mm), (1, .int a), (2, .int z_1), (3, .int i), (4, .int j)] → W p l e ({ frames := 3, cells := 0, slots := 0, locals := 75 }) s m args below meth c H locs 0 0 Q (F0 m 54 ls []) := by
                intro ddloop54
                induction ddloop54 with
                | zero =>
                  intro j gg gh gi H locs ls hdd
                  exact absurd hdd (Nat.not_lt_zero _)
                | succ ddloop54 ih54 =>
                  intro j gg gh gi H locs ls hdd hj9 hGO2 hP hD hS hl
                  refine lv_iload hx hb dX11_tie_54 (lv_at hl 4 rfl) ?_
                  refine lv_aload_n hx hb dX11_tie_56 rfl (lv_at hl 0 rfl) ?_
                  refine va_get (D := D) (ci := 11) (v := .int (nI jn)) (C := RX11) (T := TX11) (N := 47) hx hb hts (by decide +kernel) hown hK.1 hP 0 rfl rfl 0 (by decide) (hts (.fieldLink RX11 93 "JugglingHallModel" "jugglers" "I") (by decide +kernel)) (fun _ h9 => h9) rfl dX11_tie_57 ?_
                  refine a_icmp_ge (u := j.toInt) (v := (jn : Int)) (tgt := 137) hx hb dX11_tie_60 (by decide) (rfl) (nI_toInt (by omega)) (fun c_21 => ?_) (fun c_21 => ?_)
                  · obtain ⟨z_22, q_22, e_22⟩ := i_inc (a := i.toInt) (1) (rfl) (by decide) (by omega) (by omega)
                    refine lv_iinc (v := z_22) (lv' := [(3, .int z_22), (0, .ref mm), (1, .int a), (2, .int z_1), (4, .int j)]) hx hb dX11_tie_137 hl (k := 3) rfl q_22 (by decide) rfl (fun ls hl => ?_)
                    refine lv_goto (tgt := 46) hx hb dX11_tie_140 (by decide) ?_
                    exact ih46 z_22 gg gh gi _ _ _ (by omega) (by first | assumption | omega) (fun t9 h8 h9 => hGO2 t9 h8 (by omega)) hP hD hS (lv_sub hl [1, 2, 3, 0] rfl)
                  · refine lv_aload_n hx hb dX11_tie_63 rfl (lv_at hl 0 rfl) ?_
                    refine lv_iload_n hx hb dX11_tie_64 rfl (lv_at hl 1 rfl) ?_
                    refine lv_iload_n hx hb dX11_tie_65 rfl (lv_at hl 3 rfl) ?_
                    refine lv_iload hx hb dX11_tie_66 (lv_at hl 4 rfl) ?_
                    refine call_g (wr := []) (va_runV (As := [.int a, .int i, .int j]) (rest := []) ⟨hx, hb, hml, hown, hts⟩ (k_landOn3 l D cI cR cM _ (w := w) (so := so) (by first | assumption | omega) (hr0) (hj1) (hrs) (hZ9) (hGd) (hSF) (by omega) (by omega)) (cwV 3 hts gX11_tie_X11_landOn rfl rfl rfl (by decide +kernel) ⟨Nat.le_of_ble_eq_true rfl, Nat.le_of_ble_eq_true rfl⟩) (pre_V hK hP hD 0 11 rfl rfl) rfl rfl hl.1 rfl (lv_room (Nat.le_of_ble_eq_true rfl)) dX11_tie_68 ⟨Nat.le_of_ble_eq_true rfl, Nat.le_of_ble_eq_true rfl⟩) hP hD hS hA [0, 1, 2, 3, 4, 5, 6, 7, 8, 9, 10, 11, 12, 13, 14, 15, 16, 17, 18, 19, 20, 21, 22, 23, 24, 25] [] (by with_unfolding_all rfl) rfl (by decide) (by decide) (fun u_23 H locs hw hP hD hS => ?_)
                    obtain ⟨r_23, g16_23⟩ := u_23
                    have hP : va_P D vwCl (mX mm q jn cI x0 x1 x2 x3 x4 x5 x6 x7 x8 x9 x10 x11 x12 x13 x14 x15 x16 x17 x18 x19 x20 f0 f1 f2 f3 f4 f5 f6 f7 f8 f9 f10 f11 f12 gg gh gc g16_23 f17 f18 f19 f20 f21 f22 f23 f24) H := hP
                    have hD : va_D A (mX mm q jn cI x0 x1 x2 x3 x4 x5 x6 x7 x8 x9 x10 x11 x12 x13 x14 x15 x16 x17 x18 x19 x20 f0 f1 f2 f3 f4 f5 f6 f7 f8 f9 f10 f11 f12 gg gh gc g16_23 f17 f18 f19 f20 f21 f22 f23 f24) := hD
                    obtain ⟨h_23, hA_23, hB_23⟩ : (r_23.toInt = Lct w (f0 a.toInt.toNat).toInt i.toInt (2 * (f0 a.toInt.toNat).toInt).toNat) ∧ (1 ≤ r_23.toInt → (g16_23 0).toInt = 6 * (so (2 * i.toInt) / 2) + so (2 * i.toInt) % 2) ∧ (2 ≤ r_23.toInt → (g16_23 1).toInt = 6 * (so (2 * i.toInt + 1) / 2) + so (2 * i.toInt + 1) % 2) := hw
                    obtain ⟨hr1_, hr2_, hr3_⟩ := Lct_th hGd hsr (by omega) h_23
                    refine lv_istore (lv' := [(5, .int r_23), (0, .ref mm), (1, .int a), (2, .int z_1), (3, .int i), (4, .int j)]) hx hb dX11_tie_71 hl (by decide) rfl (fun ls hl => ?_)
                    refine lv_iconst (v := 0) hx hb dX11_tie_73 (by decide) ?_
                    refine lv_istore (lv' := [(6, .int 0), (5, .int r_23), (0, .ref mm), (1, .int a), (2, .int z_1), (3, .int i), (4, .int j)]) hx hb dX11_tie_74 hl (by decide) rfl (fun ls hl => ?_)
                    have loop76 : ∀ (ddloop76 : Nat) (k6 : Int32) (gj : (Nat → Int32)) (gk : (Nat → Int32)) (H : Heap) (locs : List Loc) (ls : Array Slot), (r_23.toInt - k6.toInt).toNat < ddloop76 → (0 ≤ k6.toInt ∧ k6.toInt ≤ r_23.toInt) → (∀ t9 : Int, Th w (2 * (f0 a.toInt.toNat).toInt) t9 → (t9 / 2 < i.toInt ∨ (t9 / 2 = i.toInt ∧ t9 % 2 < k6.toInt)) → (gj (6 * (so t9 / 2) + so t9 % 2).toNat).toInt = (6 * (t9 / 2) + t9 % 2)) → va_P D vwCl (mX mm q jn cI x0 x1 x2 x3 x4 x5 x6 x7 x8 x9 x10 x11 x12 x13 x14 x15 x16 x17 x18 x19 x20 f0 f1 f2 f3 f4 f5 f6 f7 f8 f9 f10 f11 f12 gj gk gc g16_23 f17 f18 f19 f20 f21 f22 f23 f24) H → va_D A (mX mm q jn cI x0 x1 x2 x3 x4 x5 x6 x7 x8 x9 x10 x11 x12 x13 x14 x15 x16 x17 x18 x19 x20 f0 f1 f2 f3 f4 f5 f6 f7 f8 f9 f10 f11 f12 gj gk gc g16_23 f17 f18 f19 f20 f21 f22 f23 f24) → va_S A s.heap H locs → lv_has ls 8 [(0, .ref mm), (1, .int a), (2, .int z_1), (3, .int i), (4, .int j), (5, .int r_23), (6, .int k6)] → W p l e ({ frames := 3, cells := 0, slots := 0, locals := 75 }) s m args below meth c H locs 0 0 Q (F0 m 76 ls []) := by
                      intro ddloop76
                      induction ddloop76 with
                      | zero =>
                        intro k6 gj gk H locs ls hdd
                        exact absurd hdd (Nat.not_lt_zero _)
                      | succ ddloop76 ih76 =>
                        intro k6 gj gk H locs ls hdd hk6 hGO3 hP hD hS hl
                        refine lv_iload hx hb dX11_tie_76 (lv_at hl 6 rfl) ?_
                        refine lv_iload hx hb dX11_tie_78 (lv_at hl 5 rfl) ?_
                        refine a_icmp_ge (u := k6.toInt) (v := r_23.toInt) (tgt := 131) hx hb dX11_tie_80 (by decide) (rfl) (rfl) (fun c_24 => ?_) (fun c_24 => ?_)
                        · obtain ⟨z_25, q_25, e_25⟩ := i_inc (a := j.toInt) (1) (rfl) (by decide) (by omega) (by omega)
                          refine lv_iinc (v := z_25) (lv' := [(4, .int z_25), (0, .ref mm), (1, .int a), (2, .int z_1), (3, .int i), (5, .int r_23), (6, .int k6)]) hx hb dX11_tie_131 hl (k := 4) rfl q_25 (by decide) rfl (fun ls hl => ?_)
                          refine lv_goto (tgt := 54) hx hb dX11_tie_134 (by decide) ?_
                          exact ih54 z_25 gj gk g16_23 _ _ _ (by omega) (by first | assumption | omega) (fun t9 h8 h9 => hGO3 t9 h8 (by
                            by_cases q9 : t9 / 2 < i.toInt
                            · exact Or.inl q9
                            · have q8 : t9 / 2 = i.toInt := by omega
                              have q7 := (hr3_ t9 q8).mp h8.2.2
                              exact Or.inr ⟨q8, by omega⟩)) hP hD hS (lv_sub hl [1, 2, 3, 4, 0] rfl)
                        · refine lv_bipush (v := 6) hx hb dX11_tie_83 (by decide) ?_
                          refine lv_iload_n hx hb dX11_tie_85 rfl (lv_at hl 3 rfl) ?_
                          refine a_imul (u := 6) (v := i.toInt) hx hb dX11_tie_86 (by decide) (rfl) (by omega) (fun z_26 e_26 => ?_)
                          refine lv_iconst (v := 2) hx hb dX11_tie_87 (by decide) ?_
                          refine lv_iload hx hb dX11_tie_88 (lv_at hl 4 rfl) ?_
                          refine a_imul (u := 2) (v := j.toInt) hx hb dX11_tie_90 (by decide) (rfl) (by omega) (fun z_27 e_27 => ?_)
                          refine a_iadd (u := (6 * i.toInt)) (v := (2 * j.toInt)) hx hb dX11_tie_91 (e_26) (e_27) (by omega) (fun z_28 e_28 => ?_)
                          refine lv_iload hx hb dX11_tie_92 (lv_at hl 6 rfl) ?_
                          refine a_iadd (u := ((6 * i.toInt) + (2 * j.toInt))) (v := k6.toInt) hx hb dX11_tie_94 (e_28) (rfl) (by omega) (fun z_29 e_29 => ?_)
                          refine lv_istore (lv' := [(7, .int z_29), (0, .ref mm), (1, .int a), (2, .int z_1), (3, .int i), (4, .int j), (5, .int r_23), (6, .int k6)]) hx hb dX11_tie_95 hl (by decide) rfl (fun ls hl => ?_)
                          refine lv_aload_n hx hb dX11_tie_97 rfl (lv_at hl 1 rfl) ?_
                          refine va_get (D := D) (ci := 11) (v := .ref (q 13)) (C := RX11) (T := TX11) (N := 47) hx hb hts (by decide +kernel) hown hK.1 hP 0 rfl rfl 31 (by decide) (hts (.fieldLink RX11 57 "JugglingHallModel" "goesOn" "[I") (by decide +kernel)) (fun _ h9 => h9) rfl dX11_tie_98 ?_
                          refine lv_aload_n hx hb dX11_tie_101 rfl (lv_at hl 1 rfl) ?_
                          refine va_get (D := D) (ci := 11) (v := .ref (q 16)) (C := RX11) (T := TX11) (N := 47) hx hb hts (by decide +kernel) hown hK.1 hP 0 rfl rfl 34 (by decide) (hts (.fieldLink RX11 66 "JugglingHallModel" "landing" "[I") (by decide +kernel)) (fun _ h9 => h9) rfl dX11_tie_102 ?_
                          refine lv_iload hx hb dX11_tie_105 (lv_at hl 7 rfl) ?_
                          refine a_iald (f := g16_23) (u := k6.toInt) hx hb hK.1 hP 17 0 rfl rfl dX11_tie_107 (rfl) (by omega) (fun z_30 q_30 e_30 => ?_)
                          have hTt : Th w (2 * (f0 a.toInt.toNat).toInt) (2 * i.toInt + k6.toInt) := ⟨by omega, by omega, (hr3_ _ (by omega)).mpr (by omega)⟩
                          have hTs := hBj.1 _ hTt
                          have hTs1 := hTs.1
                          have hTs2 := hTs.2.1
                          have hLv : z_30.toInt = (6 * (so (2 * i.toInt + k6.toInt) / 2) + so (2 * i.toInt + k6.toInt) % 2) := by
                            rw [q_30]
                            rcases (show k6.toInt = 0 ∨ k6.toInt = 1 by omega) with q9 | q9
                            · rw [q9, Int.add_zero]; exact hA_23 (by omega)
                            · rw [q9]; exact hB_23 (by omega)
                          refine lv_iload hx hb dX11_tie_108 (lv_at hl 0 rfl) ?_
                          refine ma_13 (u := z_30.toInt) hx hb hK hP hD hS dX11_tie_110 (rfl) (by omega) (fun g_31 H locs eg_31 hP hD hS => ?_)
                          refine lv_aload_n hx hb dX11_tie_111 rfl (lv_at hl 1 rfl) ?_
                          refine va_get (D := D) (ci := 11) (v := .ref (q 14)) (C := RX11) (T := TX11) (N := 47) hx hb hts (by decide +kernel) hown hK.1 hP 0 rfl rfl 32 (by decide) (hts (.fieldLink RX11 60 "JugglingHallModel" "comesFrom" "[I") (by decide +kernel)) (fun _ h9 => h9) rfl dX11_tie_112 ?_
                          refine lv_iload hx hb dX11_tie_115 (lv_at hl 0 rfl) ?_
                          refine lv_aload_n hx hb dX11_tie_117 rfl (lv_at hl 1 rfl) ?_
                          refine va_get (D := D) (ci := 11) (v := .ref (q 16)) (C := RX11) (T := TX11) (N := 47) hx hb hts (by decide +kernel) hown hK.1 hP 0 rfl rfl 34 (by decide) (hts (.fieldLink RX11 66 "JugglingHallModel" "landing" "[I") (by decide +kernel)) (fun _ h9 => h9) rfl dX11_tie_118 ?_
                          refine lv_iload hx hb dX11_tie_121 (lv_at hl 7 rfl) ?_
                          refine a_iald (f := g16_23) (u := k6.toInt) hx hb hK.1 hP 17 0 rfl rfl dX11_tie_123 (rfl) (by omega) (fun z_32 q_32 e_32 => ?_)
                          refine ma_14 (u := (((6 * i.toInt) + (2 * j.toInt)) + k6.toInt)) hx hb hK hP hD hS dX11_tie_124 (e_29) (by omega) (fun g_33 H locs eg_33 hP hD hS => ?_)
                          obtain ⟨z_34, q_34, e_34⟩ := i_inc (a := k6.toInt) (1) (rfl) (by decide) (by omega) (by omega)
                          refine lv_iinc (v := z_34) (lv' := [(6, .int z_34), (7, .int z_29), (0, .ref mm), (1, .int a), (2, .int z_1), (3, .int i), (4, .int j), (5, .int r_23)]) hx hb dX11_tie_125 hl (k := 7) rfl q_34 (by decide) rfl (fun ls hl => ?_)
                          refine lv_goto (tgt := 76) hx hb dX11_tie_128 (by decide) ?_
                          exact ih76 z_34 g_31 g_33 _ _ _ (by omega) (by first | assumption | omega) (fun t9 h8 h9 => by
                            have hs9 := hBj.1 t9 h8
                            have hs8 := hs9.1
                            have hs7 := hTs.1
                            by_cases q9 : t9 = 2 * i.toInt + k6.toInt
                            · rw [eg_31, q9, show (6 * (so (2 * i.toInt + k6.toInt) / 2) + so (2 * i.toInt + k6.toInt) % 2) = z_30.toInt by omega, pk_us]; omega
                            · have hne : so t9 ≠ so (2 * i.toInt + k6.toInt) := fun e9 => q9 (hBj.2 _ _ h8 hTt e9)
                              rw [eg_31, un_i (by omega) (by omega) (by omega)]
                              exact hGO3 t9 h8 (by omega)) hP hD hS (lv_sub hl [2, 3, 4, 5, 6, 7, 0] rfl)
                    have hz_35 : (0 : Int32).toInt = 0 := by decide
                    exact loop76 ((r_23.toInt - (0 : Int32).toInt).toNat + 1) (0 : Int32) gg gh _ _ _ (by omega) (by first | assumption | omega) (fun t9 h8 h9 => hGO2 t9 h8 (by omega)) hP hD hS (lv_sub hl [2, 3, 4, 5, 6, 1, 0] rfl)
              have hz_36 : (0 : Int32).toInt = 0 := by decide
              exact loop54 (((jn : Int) - (0 : Int32).toInt).toNat + 1) (0 : Int32) gd ge gf _ _ _ (by omega) (by first | assumption | omega) (fun t9 h8 h9 => hGO t9 h8 (by omega)) hP hD hS (lv_sub hl [1, 2, 3, 4, 0] rfl)
        have hz_37 : (0 : Int32).toInt = 0 := by decide
        exact loop46 (((f0 a.toInt.toNat).toInt - (0 : Int32).toInt).toNat + 1) (0 : Int32) ga gb f16 _ _ _ (by omega) (by first | assumption | omega) (fun t9 h8 h9 => absurd h9 (by have := h8.1; omega)) hP hD hS (lv_sub hl [1, 2, 3, 0] rfl)
      · refine lv_aload_n hx hb dX11_tie_17 rfl (lv_at hl 0 rfl) ?_
        refine va_get (D := D) (ci := 11) (v := .ref (q 13)) (C := RX11) (T := TX11) (N := 47) hx hb hts (by decide +kernel) hown hK.1 hP 0 rfl rfl 31 (by decide) (hts (.fieldLink RX11 57 "JugglingHallModel" "goesOn" "[I") (by decide +kernel)) (fun _ h9 => h9) rfl dX11_tie_18 ?_
        refine lv_iload_n hx hb dX11_tie_21 rfl (lv_at hl 3 rfl) ?_
        refine lv_iconst (v := (-1)) hx hb dX11_tie_22 (by decide) ?_
        refine ma_13 (u := t.toInt) hx hb hK hP hD hS dX11_tie_23 (rfl) (by omega) (fun g_38 H locs eg_38 hP hD hS => ?_)
        refine lv_aload_n hx hb dX11_tie_24 rfl (lv_at hl 0 rfl) ?_
        refine va_get (D := D) (ci := 11) (v := .ref (q 14)) (C := RX11) (T := TX11) (N := 47) hx hb hts (by decide +kernel) hown hK.1 hP 0 rfl rfl 32 (by decide) (hts (.fieldLink RX11 60 "JugglingHallModel" "comesFrom" "[I") (by decide +kernel)) (fun _ h9 => h9) rfl dX11_tie_25 ?_
        refine lv_iload_n hx hb dX11_tie_28 rfl (lv_at hl 3 rfl) ?_
        refine lv_iconst (v := (-1)) hx hb dX11_tie_29 (by decide) ?_
        refine ma_14 (u := t.toInt) hx hb hK hP hD hS dX11_tie_30 (rfl) (by omega) (fun g_39 H locs eg_39 hP hD hS => ?_)
        refine lv_aload_n hx hb dX11_tie_31 rfl (lv_at hl 0 rfl) ?_
        refine va_get (D := D) (ci := 11) (v := .ref (q 15)) (C := RX11) (T := TX11) (N := 47) hx hb hts (by decide +kernel) hown hK.1 hP 0 rfl rfl 33 (by decide) (hts (.fieldLink RX11 63 "JugglingHallModel" "cycleAt" "[I") (by decide +kernel)) (fun _ h9 => h9) rfl dX11_tie_32 ?_
        refine lv_iload_n hx hb dX11_tie_35 rfl (lv_at hl 3 rfl) ?_
        refine lv_iconst (v := (-1)) hx hb dX11_tie_36 (by decide) ?_
        refine ma_15 (u := t.toInt) hx hb hK hP hD hS dX11_tie_37 (rfl) (by omega) (fun g_40 H locs eg_40 hP hD hS => ?_)
        obtain ⟨z_41, q_41, e_41⟩ := i_inc (a := t.toInt) (1) (rfl) (by decide) (by omega) (by omega)
        refine lv_iinc (v := z_41) (lv' := [(3, .int z_41), (0, .ref mm), (1, .int a), (2, .int z_1)]) hx hb dX11_tie_38 hl (k := 3) rfl q_41 (by decide) rfl (fun ls hl => ?_)
        refine lv_goto (tgt := 9) hx hb dX11_tie_41 (by decide) ?_
        exact ih9 z_41 g_38 g_39 g_40 _ _ _ (by omega) (by first | assumption | omega) (fun t9 h8 h9 => by
          by_cases q : t9 = t.toInt
          · rw [eg_40, q, pk_us]; decide
          · rw [eg_40, un_i (by omega) (by omega) (by omega)]; exact hng t9 h8 (by omega)) hP hD hS (lv_sub hl [1, 2, 3, 0] rfl)
  have hz_42 : (0 : Int32).toInt = 0 := by decide
  exact loop9 ((6 * (f0 a.toInt.toNat).toInt - (0 : Int32).toInt).toNat + 1) (0 : Int32) f13 f14 f15 _ _ _ (by omega) (by first | assumption | omega) (fun t9 h8 h9 => absurd h9 (by omega)) hP hD hS (lv_sub hl [2, 3, 1, 0] rfl)
