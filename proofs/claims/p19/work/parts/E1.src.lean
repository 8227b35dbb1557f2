/-- a throw that lands on beat i -/
def Lnr (w : Int → Int) (n i u : Int) : Prop := 0 ≤ u ∧ u < 2 * n ∧ w u ≠ 0 ∧ (u / 2 + w u) % n = i
/-- caught ahead: the greater height, then the lower hand -/
def Ahd (w : Int → Int) (u v : Int) : Prop := w v < w u ∨ (w u = w v ∧ u % 2 < v % 2)
def Lct (w : Int → Int) (n b : Int) : Nat → Int
  | 0 => 0
  | t + 1 => Lct w n b t + (if w (t : Int) = 0 then 0 else if ((t : Int) / 2 + w (t : Int)) % n = b then 1 else 0)
def Tct (w : Int → Int) (b : Int) : Nat → Int
  | 0 => 0
  | t + 1 => Tct w b t + (if w (t : Int) = 0 then 0 else if (t : Int) / 2 = b then 1 else 0)
theorem lnd_e (w : Int → Int) (n b : Int) (t : Nat) : lnd w n b t = Lct w n b t - Tct w b t := by
  induction t with
  | zero => rfl
  | succ t ih =>
    show lnd w n b t + (if w (t : Int) = 0 then 0 else (if ((t : Int) / 2 + w (t : Int)) % n = b then 1 else 0) - (if (t : Int) / 2 = b then 1 else 0)) = Lct w n b t + (if w (t : Int) = 0 then 0 else if ((t : Int) / 2 + w (t : Int)) % n = b then 1 else 0) - (Tct w b t + (if w (t : Int) = 0 then 0 else if (t : Int) / 2 = b then 1 else 0))
    rw [ih]
    by_cases e : w (t : Int) = 0
    · rw [if_pos e, if_pos e, if_pos e]; omega
    · rw [if_neg e, if_neg e, if_neg e]; omega
theorem Lct_s {w : Int → Int} {n b t : Int} (h : 0 ≤ t) : Lct w n b (t + 1).toNat = Lct w n b t.toNat + (if w t = 0 then 0 else if (t / 2 + w t) % n = b then 1 else 0) := by
  rw [show (t + 1).toNat = t.toNat + 1 by omega]
  show Lct w n b t.toNat + (if w ((t.toNat : Nat) : Int) = 0 then 0 else if (((t.toNat : Nat) : Int) / 2 + w ((t.toNat : Nat) : Int)) % n = b then 1 else 0) = _
  rw [show ((t.toNat : Nat) : Int) = t by omega]
theorem Lct_m (w : Int → Int) (n b : Int) (t d : Nat) : Lct w n b t ≤ Lct w n b (t + d) := by
  induction d with
  | zero => exact Int.le_refl _
  | succ d ih =>
    show _ ≤ Lct w n b (t + d) + (if w ((t + d : Nat) : Int) = 0 then 0 else if (((t + d : Nat) : Int) / 2 + w ((t + d : Nat) : Int)) % n = b then 1 else 0)
    by_cases e : w ((t + d : Nat) : Int) = 0
    · rw [if_pos e]; omega
    · rw [if_neg e]
      by_cases q : (((t + d : Nat) : Int) / 2 + w ((t + d : Nat) : Int)) % n = b
      · rw [if_pos q]; omega
      · rw [if_neg q]; omega
theorem Lct_le {w : Int → Int} {n b s t : Int} (h0 : 0 ≤ s) (h : s ≤ t) : Lct w n b s.toNat ≤ Lct w n b t.toNat := by
  have := Lct_m w n b s.toNat (t.toNat - s.toNat)
  rw [show s.toNat + (t.toNat - s.toNat) = t.toNat by omega] at this
  exact this
/-- how many are thrown on a beat: none ahead of it, all behind it -/
theorem Tct_v (w : Int → Int) (b : Int) (hb : 0 ≤ b) (t : Nat) : Tct w b t = (if 2 * b < (t : Int) ∧ w (2 * b) ≠ 0 then 1 else 0) + (if 2 * b + 1 < (t : Int) ∧ w (2 * b + 1) ≠ 0 then 1 else 0) := by
  induction t with
  | zero => rw [if_neg (by omega), if_neg (by omega)]; rfl
  | succ t ih =>
    show Tct w b t + (if w (t : Int) = 0 then 0 else if (t : Int) / 2 = b then 1 else 0) = _
    rw [ih]
    by_cases e0 : (t : Int) = 2 * b
    · rw [if_neg (show ¬ (2 * b < (t : Int) ∧ w (2 * b) ≠ 0) by omega), if_neg (show ¬ (2 * b + 1 < (t : Int) ∧ w (2 * b + 1) ≠ 0) by omega), if_neg (show ¬ (2 * b + 1 < ((t + 1 : Nat) : Int) ∧ w (2 * b + 1) ≠ 0) by omega), e0]
      by_cases q : w (2 * b) = 0
      · rw [if_pos q, if_neg (fun r => r.2 q)]; rfl
      · rw [if_neg q, if_pos (by omega), if_pos (⟨by omega, q⟩)]; rfl
    · by_cases e1 : (t : Int) = 2 * b + 1
      · rw [if_neg (show ¬ (2 * b + 1 < (t : Int) ∧ w (2 * b + 1) ≠ 0) by omega), e1]
        have c1 : (2 * b < 2 * b + 1 ∧ w (2 * b) ≠ 0) ↔ (2 * b < ((t + 1 : Nat) : Int) ∧ w (2 * b) ≠ 0) := by constructor <;> (rintro ⟨r1, r2⟩; exact ⟨by omega, r2⟩)
        simp only [c1]
        by_cases q : w (2 * b + 1) = 0
        · rw [if_pos q, if_neg (show ¬ (2 * b + 1 < ((t + 1 : Nat) : Int) ∧ w (2 * b + 1) ≠ 0) from fun r => r.2 q)]; omega
        · rw [if_neg q, if_pos (show (2 * b + 1) / 2 = b by omega), if_pos (show 2 * b + 1 < ((t + 1 : Nat) : Int) ∧ w (2 * b + 1) ≠ 0 from ⟨by omega, q⟩)]; omega
      · have c1 : (2 * b < (t : Int) ∧ w (2 * b) ≠ 0) ↔ (2 * b < ((t + 1 : Nat) : Int) ∧ w (2 * b) ≠ 0) := by constructor <;> (rintro ⟨r1, r2⟩; exact ⟨by omega, r2⟩)
        have c2 : (2 * b + 1 < (t : Int) ∧ w (2 * b + 1) ≠ 0) ↔ (2 * b + 1 < ((t + 1 : Nat) : Int) ∧ w (2 * b + 1) ≠ 0) := by constructor <;> (rintro ⟨r1, r2⟩; exact ⟨by omega, r2⟩)
        simp only [c1, c2]
        by_cases q : w (t : Int) = 0
        · rw [if_pos q]; omega
        · rw [if_neg q, if_neg (show ¬ (t : Int) / 2 = b by omega)]; omega
theorem Tct_end {w : Int → Int} {n b : Int} (b0 : 0 ≤ b) (b1 : b < n) : Tct w b (2 * n).toNat = (if w (2 * b) ≠ 0 then 1 else 0) + (if w (2 * b + 1) ≠ 0 then 1 else 0) := by
  rw [Tct_v w b b0]
  have c1 : (2 * b < (((2 * n).toNat : Nat) : Int) ∧ w (2 * b) ≠ 0) ↔ w (2 * b) ≠ 0 := ⟨fun r => r.2, fun r => ⟨by omega, r⟩⟩
  have c2 : (2 * b + 1 < (((2 * n).toNat : Nat) : Int) ∧ w (2 * b + 1) ≠ 0) ↔ w (2 * b + 1) ≠ 0 := ⟨fun r => r.2, fun r => ⟨by omega, r⟩⟩
  simp only [c1, c2]
theorem Gd_L {w : Int → Int} {n b : Int} (h : GdW w n) (b0 : 0 ≤ b) (b1 : b < n) : Lct w n b (2 * n).toNat = (if w (2 * b) ≠ 0 then 1 else 0) + (if w (2 * b + 1) ≠ 0 then 1 else 0) := by
  have h1 := h b b0 b1
  rw [lnd_e, Tct_end b0 b1] at h1
  omega
theorem Gd_2 {w : Int → Int} {n b t : Int} (h : GdW w n) (b0 : 0 ≤ b) (b1 : b < n) (t0 : 0 ≤ t) (t1 : t ≤ 2 * n) : Lct w n b t.toNat ≤ 2 := by
  have h1 := Gd_L h b0 b1
  have h2 := Lct_le (w := w) (n := n) (b := b) t0 t1
  have h3 : (if w (2 * b) ≠ 0 then (1 : Int) else 0) ≤ 1 := by
    by_cases e : w (2 * b) ≠ 0
    · rw [if_pos e]; decide
    · rw [if_neg e]; decide
  have h4 : (if w (2 * b + 1) ≠ 0 then (1 : Int) else 0) ≤ 1 := by
    by_cases e : w (2 * b + 1) ≠ 0
    · rw [if_pos e]; decide
    · rw [if_neg e]; decide
  omega
/-- of the throws below T that land on beat i: the one caught first, the one caught second -/
def SrcB (w : Int → Int) (n i T a b : Int) : Prop :=
  (Lct w n i T.toNat = 0 ∧ a = -1 ∧ b = -1 ∧ ∀ v, v < T → ¬ Lnr w n i v) ∨
  (Lct w n i T.toNat = 1 ∧ b = -1 ∧ Lnr w n i a ∧ a < T ∧ ∀ v, v < T → Lnr w n i v → v = a) ∨
  (Lct w n i T.toNat = 2 ∧ Lnr w n i a ∧ Lnr w n i b ∧ a < T ∧ b < T ∧ Ahd w a b ∧ ∀ v, v < T → Lnr w n i v → v = a ∨ v = b)
theorem Ahd_t {w : Int → Int} {n i u v : Int} (hu : Lnr w n i u) (hv : Lnr w n i v) (hne : u ≠ v) : Ahd w u v ∨ Ahd w v u := by
  obtain ⟨u0, u1, u2, u3⟩ := hu
  obtain ⟨v0, v1, v2, v3⟩ := hv
  unfold Ahd
  rcases Int.lt_trichotomy (w u) (w v) with q | q | q
  · exact Or.inr (Or.inl q)
  · have h1 := (md_k (i := u / 2) (n := n) (b := v / 2 + w u) (d := w u) (by omega) (by omega)).mpr (by rw [u3, q, v3])
    rw [show v / 2 + w u - w u = v / 2 by omega, Int.emod_eq_of_lt (by omega) (by omega)] at h1
    omega
  · exact Or.inl (Or.inl q)
theorem Ahd_n {w : Int → Int} {u v : Int} (h : Ahd w u v) (h' : Ahd w v u) : False := by
  unfold Ahd at h h'
  omega
theorem Lct_y {w : Int → Int} {n i T : Int} (h : Lnr w n i T) : Lct w n i (T + 1).toNat = Lct w n i T.toNat + 1 := by
  rw [Lct_s h.1, if_neg h.2.2.1, if_pos h.2.2.2]
theorem Lct_n {w : Int → Int} {n i T : Int} (t0 : 0 ≤ T) (t1 : T < 2 * n) (h : ¬ Lnr w n i T) : Lct w n i (T + 1).toNat = Lct w n i T.toNat := by
  rw [Lct_s t0]
  by_cases e : w T = 0
  · rw [if_pos e]; omega
  · rw [if_neg e, if_neg (fun q => h ⟨t0, t1, e, q⟩)]; omega
theorem SrcB_0 {w : Int → Int} {n i : Int} : SrcB w n i 0 (-1) (-1) := Or.inl ⟨rfl, rfl, rfl, fun v q h => by have := h.1; omega⟩
theorem SrcB_n {w : Int → Int} {n i T a b : Int} (h : SrcB w n i T a b) (t0 : 0 ≤ T) (t1 : T < 2 * n) (hn : ¬ Lnr w n i T) : SrcB w n i (T + 1) a b := by
  have e := Lct_n t0 t1 hn
  unfold SrcB
  rw [e]
  rcases h with ⟨h1, h2, h3, h4⟩ | ⟨h1, h2, h3, h4, h5⟩ | ⟨h1, h2, h3, h4, h5, h6, h7⟩
  · exact Or.inl ⟨h1, h2, h3, fun v q r => by
      by_cases e : v = T
      · rw [e] at r; exact hn r
      · exact h4 v (by omega) r⟩
  · exact Or.inr (Or.inl ⟨h1, h2, h3, by omega, fun v q r => by
      by_cases e : v = T
      · rw [e] at r; exact absurd r hn
      · exact h5 v (by omega) r⟩)
  · exact Or.inr (Or.inr ⟨h1, h2, h3, by omega, by omega, h6, fun v q r => by
      by_cases e : v = T
      · rw [e] at r; exact absurd r hn
      · exact h7 v (by omega) r⟩)
theorem SrcB_s {w : Int → Int} {n i T a b : Int} (h : SrcB w n i T a b) (hG : GdW w n) (hi : 0 ≤ i ∧ i < n) (hl : Lnr w n i T) : b = -1 ∧ (a = -1 → SrcB w n i (T + 1) T (-1)) ∧ (a ≠ -1 → 0 ≤ a ∧ a < T ∧ (Ahd w T a → SrcB w n i (T + 1) T a) ∧ (¬ Ahd w T a → SrcB w n i (T + 1) a T)) := by
  have e := Lct_y hl
  have g := Gd_2 hG hi.1 hi.2 (t := T + 1) (by have := hl.1; omega) (by have := hl.2.1; omega)
  rcases h with ⟨h1, h2, h3, h4⟩ | ⟨h1, h2, h3, h4, h5⟩ | ⟨h1, h2, h3, h4, h5, h6, h7⟩
  · refine ⟨h3, fun _ => Or.inr (Or.inl ⟨by omega, rfl, hl, by omega, fun v q r => ?_⟩), fun q => absurd h2 q⟩
    by_cases e1 : v = T
    · exact e1
    · exact absurd r (h4 v (by omega))
  · have ane : a ≠ -1 := by have := h3.1; omega
    refine ⟨h2, fun q => absurd q ane, fun _ => ⟨h3.1, h4, fun q => Or.inr (Or.inr ⟨by omega, hl, h3, by omega, by omega, q, fun v r1 r2 => ?_⟩), fun q => Or.inr (Or.inr ⟨by omega, h3, hl, by omega, by omega, (Ahd_t h3 hl (by omega)).resolve_right q, fun v r1 r2 => ?_⟩)⟩⟩
    · by_cases e1 : v = T
      · exact Or.inl e1
      · exact Or.inr (h5 v (by omega) r2)
    · by_cases e1 : v = T
      · exact Or.inr e1
      · exact Or.inl (h5 v (by omega) r2)
  · omega
theorem SrcB_u {w : Int → Int} {n i T a b c d : Int} (h : SrcB w n i T a b) (h' : SrcB w n i T c d) : a = c ∧ b = d := by
  rcases h with ⟨h1, h2, h3, h4⟩ | ⟨h1, h2, h3, h4, h5⟩ | ⟨h1, h2, h3, h4, h5, h6, h7⟩ <;> rcases h' with ⟨g1, g2, g3, g4⟩ | ⟨g1, g2, g3, g4, g5⟩ | ⟨g1, g2, g3, g4, g5, g6, g7⟩
  · omega
  · omega
  · omega
  · omega
  · exact ⟨g5 a h4 h3, by omega⟩
  · omega
  · omega
  · omega
  · have ab : a ≠ b := fun q => by rw [q] at h6; exact Ahd_n h6 h6
    rcases g7 a h4 h2 with q | q
    · rcases g7 b h5 h3 with r | r
      · omega
      · exact ⟨q, r⟩
    · rcases g7 b h5 h3 with r | r
      · rw [q, r] at h6; exact (Ahd_n h6 g6).elim
      · omega
/-- the whole: whence each throw comes -/
def SrcF (w : Int → Int) (n : Int) (s : Int → Int) : Prop := ∀ i : Int, 0 ≤ i → i < n → SrcB w n i (2 * n) (s (2 * i)) (s (2 * i + 1))
theorem SrcF_u {w : Int → Int} {n : Int} {s r : Int → Int} (h : SrcF w n s) (h' : SrcF w n r) (t : Int) (t0 : 0 ≤ t) (t1 : t < 2 * n) : s t = r t := by
  have := SrcB_u (h (t / 2) (by omega) (by omega)) (h' (t / 2) (by omega) (by omega))
  rcases (show t % 2 = 0 ∨ t % 2 = 1 by omega) with q | q
  · rw [show t = 2 * (t / 2) by omega]; exact this.1
  · rw [show t = 2 * (t / 2) + 1 by omega]; exact this.2
/-- of a throw: its source lands there -/
theorem SrcF_l {w : Int → Int} {n : Int} {s : Int → Int} (h : SrcF w n s) (hG : GdW w n) (hS9 : ∀ b : Int, 0 ≤ b → b < n → Srt w b) {t : Int} (ht : Th w (2 * n) t) : Lnr w n (t / 2) (s t) := by
  have h1 := h (t / 2) (by have := ht.1; omega) (by have := ht.2.1; omega)
  have h2 := Gd_L hG (b := t / 2) (by have := ht.1; omega) (by have := ht.2.1; omega)
  have h3 := hS9 (t / 2) (by have := ht.1; omega) (by have := ht.2.1; omega)
  unfold Srt at h3
  rcases (show t % 2 = 0 ∨ t % 2 = 1 by omega) with q | q
  · have e : 2 * (t / 2) = t := by omega
    have w1 : w (2 * (t / 2)) ≠ 0 := by rw [e]; exact ht.2.2
    rw [if_pos w1] at h2
    have h5 : (0 : Int) ≤ (if w (2 * (t / 2) + 1) ≠ 0 then 1 else 0) := by
      by_cases q9 : w (2 * (t / 2) + 1) ≠ 0
      · rw [if_pos q9]; decide
      · rw [if_neg q9]; decide
    rcases h1 with ⟨g1, g2⟩ | ⟨g1, g2, g3, g4⟩ | ⟨g1, g2, g3, g4⟩
    · omega
    · rw [e] at g3; exact g3
    · rw [e] at g2; exact g2
  · have e : 2 * (t / 2) + 1 = t := by omega
    have w1 : w (2 * (t / 2) + 1) ≠ 0 := by rw [e]; exact ht.2.2
    have w0 : w (2 * (t / 2)) ≠ 0 := by omega
    rw [if_pos w1, if_pos w0] at h2
    rcases h1 with ⟨g1, g2⟩ | ⟨g1, g2, g3, g4⟩ | ⟨g1, g2, g3, g4⟩
    · omega
    · omega
    · rw [e] at g3; exact g3
theorem SrcF_B {w : Int → Int} {n : Int} {s : Int → Int} (h : SrcF w n s) (hG : GdW w n) (hS9 : ∀ b : Int, 0 ≤ b → b < n → Srt w b) : Bj w (2 * n) s := by
  refine ⟨fun t ht => ?_, fun a b ha hb q => ?_⟩
  · have := SrcF_l h hG hS9 ht
    exact ⟨this.1, this.2.1, this.2.2.1⟩
  · have h1 := SrcF_l h hG hS9 ha
    have h2 := SrcF_l h hG hS9 hb
    have e : a / 2 = b / 2 := by rw [← h1.2.2.2, ← h2.2.2.2, q]
    by_cases r : a = b
    · exact r
    · exfalso
      have h3 := h (a / 2) (by have := ha.1; omega) (by have := ha.2.1; omega)
      have q2 : s (2 * (a / 2)) = s (2 * (a / 2) + 1) := by
        rcases (show a % 2 = 0 ∨ a % 2 = 1 by omega) with r1 | r1
        · rw [show 2 * (a / 2) = a by omega, show a + 1 = b by omega]; exact q
        · rw [show 2 * (a / 2) = b by omega, show b + 1 = a by omega]; exact q.symm
      have n1 : 0 ≤ s (2 * (a / 2) + 1) := by
        rcases (show a % 2 = 0 ∨ a % 2 = 1 by omega) with r1 | r1
        · rw [show 2 * (a / 2) + 1 = b by omega]; exact h2.1
        · rw [show 2 * (a / 2) + 1 = a by omega]; exact h1.1
      rcases h3 with ⟨g1, g2, g3, _⟩ | ⟨g1, g2, g3, g4⟩ | ⟨g1, g2, g3, g4, g5, g6, _⟩
      · omega
      · omega
      · rw [q2] at g6; exact Ahd_n g6 g6
/-- each throw is the source of one -/
theorem SrcF_i {w : Int → Int} {n : Int} {s : Int → Int} (h : SrcF w n s) (hG : GdW w n) (hS9 : ∀ b : Int, 0 ≤ b → b < n → Srt w b) (hn : 0 < n) {u : Int} (hu : Th w (2 * n) u) : ∃ t, Th w (2 * n) t ∧ s t = u ∧ t / 2 = (u / 2 + w u) % n := by
  have q0 := Int.emod_nonneg (u / 2 + w u) (show n ≠ 0 by omega)
  have q1 := Int.emod_lt_of_pos (u / 2 + w u) hn
  have hl : Lnr w n ((u / 2 + w u) % n) u := ⟨hu.1, hu.2.1, hu.2.2, rfl⟩
  generalize (u / 2 + w u) % n = i at *
  have h1 := h i q0 q1
  have h2 := Gd_L hG (b := i) q0 q1
  have h3 := hS9 i q0 q1
  unfold Srt at h3
  rcases h1 with ⟨g1, g2, g3, g4⟩ | ⟨g1, g2, g3, g4, g5⟩ | ⟨g1, g2, g3, g4, g5, g6, g7⟩
  · exact absurd hl (g4 u hu.2.1)
  · refine ⟨2 * i, ⟨by omega, by omega, fun e => ?_⟩, (g5 u hu.2.1 hl).symm, by omega⟩
    rw [if_neg (fun r => r e), if_neg (show ¬ w (2 * i + 1) ≠ 0 by omega)] at h2
    omega
  · have w1 : w (2 * i + 1) ≠ 0 := fun e => by
      rw [if_neg (show ¬ w (2 * i + 1) ≠ 0 from fun r => r e)] at h2
      by_cases r : w (2 * i) ≠ 0
      · rw [if_pos r] at h2; omega
      · rw [if_neg r] at h2; omega
    rcases g7 u hu.2.1 hl with r | r
    · exact ⟨2 * i, ⟨by omega, by omega, by omega⟩, r.symm, by omega⟩
    · exact ⟨2 * i + 1, ⟨by omega, by omega, w1⟩, r.symm, by omega⟩
