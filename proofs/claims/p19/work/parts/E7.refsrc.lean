/-- the reference's cells: how many of ours lie below -/
def T6 (t : Int) : Int := 2 * (t / 6) + (if t % 6 < 2 then t % 6 else 2)
theorem T6_0 : T6 0 = 0 := rfl
theorem T6_a {t : Int} (h : t % 6 < 2) : T6 t = 2 * (t / 6) + t % 6 := by unfold T6; rw [if_pos h]
theorem T6_b {t : Int} (h : ¬ t % 6 < 2) : T6 t = 2 * (t / 6) + 2 := by unfold T6; rw [if_neg h]
theorem T6_s {t : Int} (h : t % 6 < 2) : T6 (t + 1) = T6 t + 1 := by
  rw [T6_a h]
  by_cases q : (t + 1) % 6 < 2
  · rw [T6_a q]; omega
  · rw [T6_b q]; omega
theorem T6_n {t : Int} (h : ¬ t % 6 < 2) : T6 (t + 1) = T6 t := by
  rw [T6_b h]
  by_cases q : (t + 1) % 6 < 2
  · rw [T6_a q]; omega
  · rw [T6_b q]; omega
theorem T6_e {n : Int} : T6 (6 * n) = 2 * n := by rw [T6_a (by omega)]; omega
theorem T6_nn {t : Int} (h : 0 ≤ t) : 0 ≤ T6 t := by
  by_cases q : t % 6 < 2
  · rw [T6_a q]; omega
  · rw [T6_b q]; omega
theorem T6_u {t n : Int} (h : t % 6 < 2) (h0 : 0 ≤ t) (h1 : t < 6 * n) : 0 ≤ T6 t ∧ T6 t < 2 * n ∧ 6 * (T6 t / 2) + T6 t % 2 = t := by rw [T6_a h]; omega
theorem rh_t {R : Nat → Int32} {r n : Int} {w : Int → Int} (h : RSo R (r + 1) w n) {t : Int} (t0 : 0 ≤ t) (t1 : t < 2 * n) : cy_h R r (6 * (t / 2) + t % 2) = w t ∧ (R (r + 1 + (6 * (t / 2) + t % 2)).toNat).toInt % 4 = 0 := by
  have := rh_1 h (i := t / 2) (x := t % 2) (by omega) (by omega) (by omega) (by omega)
  rw [show 2 * (t / 2) + t % 2 = t by omega] at this
  exact this
theorem rh_u {R : Nat → Int32} {r n : Int} (h : ZX 1 R (r + 1) n) {u : Int} (u0 : 0 ≤ u) (u1 : u < 6 * n) (hh : cy_h R r u ≠ 0) : u % 6 < 2 := by
  by_cases q : u % 6 < 2
  · exact q
  · have := rh_0 h (i := u / 6) (x := u % 6) (by omega) (by omega) (by omega) (by omega)
    rw [show 6 * (u / 6) + u % 6 = u by omega] at this
    exact absurd this hh
theorem rh_T {R : Nat → Int32} {r n : Int} {w : Int → Int} (h : RSo R (r + 1) w n) {u : Int} (u0 : 0 ≤ u) (u1 : u < 6 * n) (q : u % 6 < 2) : cy_h R r u = w (T6 u) ∧ (R (r + 1 + u).toNat).toInt % 4 = 0 := by
  obtain ⟨a1, a2, a3⟩ := T6_u q u0 u1
  have := rh_t h a1 a2
  rw [a3] at this
  exact this
/-- of two that land together the reference catches one ahead -/
def PA (R : Nat → Int32) (r t u : Int) : Prop := cy_h R r u < cy_h R r t ∨ (cy_h R r t = cy_h R r u ∧ t % 6 < u % 6)
theorem PA_h {R : Nat → Int32} {r n : Int} {w : Int → Int} (h : RSo R (r + 1) w n) {t u : Int} (t0 : 0 ≤ t) (t1 : t < 2 * n) (u0 : 0 ≤ u) (u1 : u < 2 * n) : PA R r (6 * (t / 2) + t % 2) (6 * (u / 2) + u % 2) ↔ Ahd w t u := by
  unfold PA Ahd
  rw [(rh_t h t0 t1).1, (rh_t h u0 u1).1, show (6 * (t / 2) + t % 2) % 6 = t % 2 by omega, show (6 * (u / 2) + u % 2) % 6 = u % 2 by omega]
/-- the list of those who land on a beat, in the order in which they are caught -/
def SLp (w : Int → Int) (n b T m : Int) (ga : Nat → Int32) : Prop := ∃ a9 b9 : Int, SrcB w n b T a9 b9 ∧ m = Lct w n b T.toNat ∧ (1 ≤ m → (ga 0).toInt = 6 * (a9 / 2) + a9 % 2) ∧ (2 ≤ m → (ga 1).toInt = 6 * (b9 / 2) + b9 % 2)
theorem SL_0 {w : Int → Int} {n b : Int} {ga : Nat → Int32} : SLp w n b 0 0 ga := ⟨-1, -1, SrcB_0, rfl, fun q => absurd q (by decide), fun q => absurd q (by decide)⟩
theorem SL_n {w : Int → Int} {n b T m : Int} {ga : Nat → Int32} (h : SLp w n b T m ga) (t0 : 0 ≤ T) (t1 : T < 2 * n) (hn : ¬ Lnr w n b T) : SLp w n b (T + 1) m ga := by
  obtain ⟨a9, b9, h1, h2, h3, h4⟩ := h
  exact ⟨a9, b9, SrcB_n h1 t0 t1 hn, by rw [Lct_n t0 t1 hn]; exact h2, h3, h4⟩
theorem SL_1 {w : Int → Int} {n b T m : Int} {ga : Nat → Int32} (h : SLp w n b T m ga) (hG : GdW w n) (hb : 0 ≤ b ∧ b < n) (hl : Lnr w n b T) : 0 ≤ m ∧ m ≤ 1 ∧ (m = 1 → 0 ≤ (ga 0).toInt ∧ (ga 0).toInt < 6 * n) := by
  obtain ⟨a9, b9, h1, h2, h3, h4⟩ := h
  have e := (SrcB_s h1 hG hb hl).1
  rcases h1 with ⟨g1, g2, g3, g4⟩ | ⟨g1, g2, g3, g4, g5⟩ | ⟨g1, g2, g3, g4, g5, g6, g7⟩
  · exact ⟨by omega, by omega, fun q => by omega⟩
  · refine ⟨by omega, by omega, fun q => ?_⟩
    rw [h3 (by omega)]
    have := g3.1
    have := g3.2.1
    omega
  · have := g3.1
    omega
theorem SL_a {w : Int → Int} {n b T m : Int} {ga g : Nat → Int32} {v : Int32} (h : SLp w n b T m ga) (hG : GdW w n) (hb : 0 ≤ b ∧ b < n) (hl : Lnr w n b T) (hm : m = 0) (hg : (g 0).toInt = 6 * (T / 2) + T % 2) : SLp w n b (T + 1) (m + 1) g := by
  obtain ⟨a9, b9, h1, h2, h3, h4⟩ := h
  have e := SrcB_s h1 hG hb hl
  have ea : a9 = -1 := by
    rcases h1 with ⟨g1, g2, g3, g4⟩ | ⟨g1, g2, g3, g4, g5⟩ | ⟨g1, g2, g3, g4, g5, g6, g7⟩
    · exact g2
    · omega
    · omega
  exact ⟨T, -1, e.2.1 ea, by rw [Lct_y hl]; omega, fun _ => hg, fun q => by omega⟩
theorem SL_b {R : Nat → Int32} {r : Int} {w : Int → Int} {n b T m : Int} {ga g : Nat → Int32} (h : SLp w n b T m ga) (hR : RSo R (r + 1) w n) (hG : GdW w n) (hb : 0 ≤ b ∧ b < n) (hl : Lnr w n b T) (hm : m = 1) (hP : ¬ PA R r (6 * (T / 2) + T % 2) (ga 0).toInt) (h0 : g 0 = ga 0) (hg : (g 1).toInt = 6 * (T / 2) + T % 2) : SLp w n b (T + 1) (m + 1) g := by
  obtain ⟨a9, b9, h1, h2, h3, h4⟩ := h
  have e := SrcB_s h1 hG hb hl
  have h5 := h3 (by omega)
  rcases h1 with ⟨g1, g2, g3, g4⟩ | ⟨g1, g2, g3, g4, g5⟩ | ⟨g1, g2, g3, g4, g5, g6, g7⟩
  · omega
  · have ane : a9 ≠ -1 := by have := g3.1; omega
    rw [h5, PA_h hR hl.1 hl.2.1 g3.1 g3.2.1] at hP
    exact ⟨a9, T, (e.2.2 ane).2.2.2 hP, by rw [Lct_y hl]; omega, fun _ => by rw [h0]; exact h5, fun _ => hg⟩
  · omega
theorem SL_c {R : Nat → Int32} {r : Int} {w : Int → Int} {n b T m : Int} {ga g : Nat → Int32} (h : SLp w n b T m ga) (hR : RSo R (r + 1) w n) (hG : GdW w n) (hb : 0 ≤ b ∧ b < n) (hl : Lnr w n b T) (hm : m = 1) (hP : PA R r (6 * (T / 2) + T % 2) (ga 0).toInt) (h0 : g 1 = ga 0) (hg : (g 0).toInt = 6 * (T / 2) + T % 2) : SLp w n b (T + 1) (m + 1) g := by
  obtain ⟨a9, b9, h1, h2, h3, h4⟩ := h
  have e := SrcB_s h1 hG hb hl
  have h5 := h3 (by omega)
  rcases h1 with ⟨g1, g2, g3, g4⟩ | ⟨g1, g2, g3, g4, g5⟩ | ⟨g1, g2, g3, g4, g5, g6, g7⟩
  · omega
  · have ane : a9 ≠ -1 := by have := g3.1; omega
    rw [h5, PA_h hR hl.1 hl.2.1 g3.1 g3.2.1] at hP
    exact ⟨T, a9, (e.2.2 ane).2.2.1 hP, by rw [Lct_y hl]; omega, fun _ => hg, fun _ => by rw [h0]; exact h5⟩
  · omega
theorem SL_e {w : Int → Int} {n b m : Int} {ga : Nat → Int32} {so : Int → Int} (h : SLp w n b (2 * n) m ga) (hS : SrcF w n so) (hb : 0 ≤ b ∧ b < n) : m = Lct w n b (2 * n).toNat ∧ (1 ≤ m → (ga 0).toInt = 6 * (so (2 * b) / 2) + so (2 * b) % 2) ∧ (2 ≤ m → (ga 1).toInt = 6 * (so (2 * b + 1) / 2) + so (2 * b + 1) % 2) := by
  obtain ⟨a9, b9, h1, h2, h3, h4⟩ := h
  obtain ⟨e1, e2⟩ := SrcB_u h1 (hS b hb.1 hb.2)
  rw [← e1, ← e2]
  exact ⟨h2, h3, h4⟩
/-- there are such sources -/
theorem SrcB_ex {w : Int → Int} {n i : Int} (hG : GdW w n) (hi : 0 ≤ i ∧ i < n) (m : Nat) (hm : (m : Int) ≤ 2 * n) : ∃ a b, SrcB w n i (m : Int) a b := by
  induction m with
  | zero => exact ⟨-1, -1, SrcB_0⟩
  | succ m ih =>
    obtain ⟨a, b, h⟩ := ih (by omega)
    rw [show ((m + 1 : Nat) : Int) = (m : Int) + 1 by omega]
    by_cases q : Lnr w n i (m : Int)
    · have e := SrcB_s h hG hi q
      by_cases ea : a = -1
      · exact ⟨_, _, e.2.1 ea⟩
      · by_cases p : Ahd w (m : Int) a
        · exact ⟨_, _, (e.2.2 ea).2.2.1 p⟩
        · exact ⟨_, _, (e.2.2 ea).2.2.2 p⟩
    · exact ⟨a, b, SrcB_n h (by omega) (by omega) q⟩
theorem SrcF_ex {w : Int → Int} {n : Int} (hG : GdW w n) : ∃ so, SrcF w n so := by
  have h : ∀ i : Int, ∃ p : Int × Int, 0 ≤ i → i < n → SrcB w n i (2 * n) p.1 p.2 := fun i => by
    by_cases q : 0 ≤ i ∧ i < n
    · obtain ⟨a, b, e⟩ := SrcB_ex hG q (2 * n).toNat (by omega)
      rw [show (((2 * n).toNat : Nat) : Int) = 2 * n by omega] at e
      exact ⟨(a, b), fun _ _ => e⟩
    · exact ⟨(0, 0), fun h1 h2 => absurd ⟨h1, h2⟩ q⟩
  obtain ⟨F, hF⟩ := Classical.axiomOfChoice h
  refine ⟨fun t => if t % 2 = 0 then (F (t / 2)).1 else (F (t / 2)).2, fun i i0 i1 => ?_⟩
  have := hF i i0 i1
  dsimp only
  rw [if_pos (show (2 * i) % 2 = 0 by omega), if_neg (show ¬ (2 * i + 1) % 2 = 0 by omega), show 2 * i / 2 = i by omega, show (2 * i + 1) / 2 = i by omega]
  exact this
/-- where each throw goes on -/
def NxF (w : Int → Int) (N : Int) (so nx : Int → Int) : Prop := (∀ u, Th w N u → Th w N (nx u) ∧ so (nx u) = u) ∧ ∀ t, Th w N t → nx (so t) = t
theorem NxF_ex {w : Int → Int} {n : Int} {so : Int → Int} (h : SrcF w n so) (hG : GdW w n) (hS : ∀ b : Int, 0 ≤ b → b < n → Srt w b) (hn : 0 < n) : ∃ nx, NxF w (2 * n) so nx := by
  have ex : ∀ u : Int, ∃ t : Int, Th w (2 * n) u → Th w (2 * n) t ∧ so t = u := fun u => by
    by_cases q : Th w (2 * n) u
    · obtain ⟨t, t1, t2, t3⟩ := SrcF_i h hG hS hn q
      exact ⟨t, fun _ => ⟨t1, t2⟩⟩
    · exact ⟨0, fun e => absurd e q⟩
  obtain ⟨nx, hx⟩ := Classical.axiomOfChoice ex
  have hB := SrcF_B h hG hS
  refine ⟨nx, hx, fun t ht => ?_⟩
  have h1 := hx (so t) (hB.1 t ht)
  exact hB.2 _ _ h1.1 ht h1.2
theorem NxF_B {w : Int → Int} {N : Int} {so nx : Int → Int} (h : NxF w N so nx) : Bj w N nx := ⟨fun t ht => (h.1 t ht).1, fun a b ha hb e => by
  have h1 := (h.1 a ha).2
  rw [e, (h.1 b hb).2] at h1
  exact h1.symm⟩
theorem NxF_L {w : Int → Int} {N : Int} {so nx : Int → Int} {T : Int} {L : Int → Int} {k : Int} (h : NxF w N so nx) (hB : Bj w N so) (hL : LabP w N nx T L k) : LabP w N so T L k := LabP_i hL hB.1 h.2 (fun t ht => (h.1 t ht).1) (fun t ht => (h.1 t ht).2)
/-- how many are thrown on a beat -/
theorem Lct_th {w : Int → Int} {n b r : Int} (hG : GdW w n) (hS : ∀ b : Int, 0 ≤ b → b < n → Srt w b) (hb : 0 ≤ b ∧ b < n) (hr : r = Lct w n b (2 * n).toNat) : 0 ≤ r ∧ r ≤ 2 ∧ (∀ t : Int, t / 2 = b → (w t ≠ 0 ↔ t % 2 < r)) := by
  have h1 := Gd_L hG hb.1 hb.2
  have h2 := hS b hb.1 hb.2
  unfold Srt at h2
  have e0 : ∀ t : Int, t / 2 = b → t = 2 * b ∨ t = 2 * b + 1 := fun t h => by omega
  by_cases q0 : w (2 * b) ≠ 0
  · rw [if_pos q0] at h1
    by_cases q1 : w (2 * b + 1) ≠ 0
    · rw [if_pos q1] at h1
      refine ⟨by omega, by omega, fun t ht => ?_⟩
      rcases e0 t ht with e | e
      · rw [e]; exact ⟨fun _ => by omega, fun _ => q0⟩
      · rw [e]; exact ⟨fun _ => by omega, fun _ => q1⟩
    · rw [if_neg q1] at h1
      refine ⟨by omega, by omega, fun t ht => ?_⟩
      rcases e0 t ht with e | e
      · rw [e]; exact ⟨fun _ => by omega, fun _ => q0⟩
      · rw [e]; exact ⟨fun q => absurd q q1, fun q => by omega⟩
  · have q1 : ¬ w (2 * b + 1) ≠ 0 := by omega
    rw [if_neg q0, if_neg q1] at h1
    refine ⟨by omega, by omega, fun t ht => ?_⟩
    rcases e0 t ht with e | e
    · rw [e]; exact ⟨fun q => absurd q q0, fun q => by omega⟩
    · rw [e]; exact ⟨fun q => absurd q q1, fun q => by omega⟩
