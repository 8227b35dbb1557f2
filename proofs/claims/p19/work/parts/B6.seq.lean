/-- what the loop of sequence keeps: where the machine stands, and that the arrays hold it -/
def SI (P ks vs : Nat → Int) (E : Int → Int × (Int → Int)) (c0 : Cf) (mt io a5 a7 a8 a10 a11 a12 : Int32) (q3 q4 q5 q6 : Nat → Int32) (ic : Nat) (o : Int) (w st op dg : Int → Int) : Prop :=
  Go ks vs E c0 (ic, a11.toInt, a10.toInt, o, mt.toInt, io.toInt, w, st, op, dg) ∧ CU P ks vs ic a5 a7 a8 ∧ RS q3 w a10.toInt ∧
  (∀ b : Int, 0 ≤ b → b < a10.toInt → w (2 * b + 1) ≤ w (2 * b) ∧ 0 ≤ w (2 * b + 1) ∧ w (2 * b) ≤ 9) ∧
  (∀ k : Int, 0 ≤ k → k ≤ a11.toInt → (q6 k.toNat).toInt = st k) ∧ (∀ k : Int, 0 ≤ k → k < a11.toInt → (q4 k.toNat).toInt = op k ∧ (q5 k.toNat).toInt = dg k) ∧
  (mt.toInt = 1 → o = a12.toInt ∧ 0 ≤ o ∧ o < a10.toInt) ∧ (io.toInt = 1 → st a11.toInt < a10.toInt)
theorem md_2 {k n : Int} (hn : 0 < n) : (2 * k) % (2 * n) = 2 * (k % n) ∧ (2 * k + 1) % (2 * n) = 2 * (k % n) + 1 := by
  have q1 := Int.emod_nonneg k (show n ≠ 0 by omega)
  have q2 := Int.emod_lt_of_pos k hn
  have q3 := Int.emod_add_mul_ediv k n
  constructor
  · refine md_u (k := k / n) (by omega) (by omega) ?_
    rw [Int.mul_assoc]; omega
  · refine md_u (k := k / n) (by omega) (by omega) ?_
    rw [Int.mul_assoc]; omega
theorem seq_times {P ks vs : Nat → Int} {E : Int → Int × (Int → Int)} {c0 : Cf} {mt io a5 a7 a8 a10 a11 a12 n0 b5 b7 b8 b10 : Int32} {q3 q4 q5 q6 g3 : Nat → Int32} {ic : Nat} {o : Int} {w st op dg : Int → Int}
    (h : SI P ks vs E c0 mt io a5 a7 a8 a10 a11 a12 q3 q4 q5 q6 ic o w st op dg) (hm : mt.toInt = 1) (h7 : a7.toInt = 42) (hd : 0 ≤ a11.toInt) (hv : 0 ≤ vs (ic + 1)) (hz : n0.toInt = 0)
    (h1 : ks (ic + 1) = 1 ∧ vs (ic + 1) ≠ 0 ∧ a10.toInt - (q6 a11.toInt.toNat).toInt + (vs (ic + 1) - 1) * (a10.toInt - a12.toInt) ≤ 24) (hc : CU P ks vs (ic + 2) b5 b7 b8) (h4 : b10.toInt = a10.toInt + (vs (ic + 1) - 1) * (a10.toInt - a12.toInt))
    (h5 : ∀ i9 : Int, 0 ≤ i9 → i9 < 6 * a10.toInt → g3 i9.toNat = q3 i9.toNat) (h6 : ∀ i9 : Int, 0 ≤ i9 → i9 < 6 * (b10.toInt - a10.toInt) → g3 (6 * a10.toInt + i9).toNat = g3 (6 * a12.toInt + i9).toNat) :
    ∃ (ic' : Nat) (o' : Int) (w' st' op' dg' : Int → Int), SI P ks vs E c0 n0 io b5 b7 b8 b10 a11 a12 g3 q4 q5 q6 ic' o' w' st' op' dg' := by
  obtain ⟨k1, k2, k3, k4, k5, k6, k7, k8⟩ := h
  obtain ⟨e1, e2, e3⟩ := k7 hm
  obtain ⟨h1, h2, h3⟩ := h1
  have hst := k5 a11.toInt hd (Int.le_refl _)
  have hm0 : 0 ≤ (vs (ic + 1) - 1) * (a10.toInt - o) := Int.mul_nonneg (by omega) (by omega)
  rw [← e1] at h3 h4 h6
  rw [hst] at h3
  refine ⟨ic + 2, o, _, st, op, dg, Go_tr k1 (Go_1 (b := (ic + 2, a11.toInt, b10.toInt, o, n0.toInt, io.toInt, (fun j => if j < 2 * a10.toInt then w j else w (2 * o + (j - 2 * a10.toInt) % (2 * (a10.toInt - o)))), st, op, dg)) ?_), hc, ?_, ?_, k5, k6, fun q => absurd q (by omega), fun q => by have := k8 q; omega⟩
  · unfold Sqp
    dsimp only
    exact Or.inl ⟨⟨hm, by rw [← k2.2.1]; exact h7⟩, h1, h2, h3, by rw [h4, hz]⟩
  · have := RS_per (m := b10.toInt - a10.toInt) k3 e2 e3 h5 h6
    rw [show a10.toInt + (b10.toInt - a10.toInt) = b10.toInt by omega] at this
    exact this
  · intro b b0 b1
    by_cases e : b < a10.toInt
    · have := k4 b b0 e
      show (if 2 * b + 1 < 2 * a10.toInt then w (2 * b + 1) else _) ≤ (if 2 * b < 2 * a10.toInt then w (2 * b) else _) ∧ 0 ≤ (if 2 * b + 1 < 2 * a10.toInt then w (2 * b + 1) else _) ∧ (if 2 * b < 2 * a10.toInt then w (2 * b) else _) ≤ 9
      rw [if_pos (by omega), if_pos (by omega)]
      exact this
    · have q := md_2 (k := b - a10.toInt) (n := a10.toInt - o) (by omega)
      have r1 := Int.emod_nonneg (b - a10.toInt) (show a10.toInt - o ≠ 0 by omega)
      have r2 := Int.emod_lt_of_pos (b - a10.toInt) (show 0 < a10.toInt - o by omega)
      have := k4 (o + (b - a10.toInt) % (a10.toInt - o)) (by omega) (by omega)
      show (if 2 * b + 1 < 2 * a10.toInt then _ else w (2 * o + (2 * b + 1 - 2 * a10.toInt) % (2 * (a10.toInt - o)))) ≤ (if 2 * b < 2 * a10.toInt then _ else w (2 * o + (2 * b - 2 * a10.toInt) % (2 * (a10.toInt - o)))) ∧ 0 ≤ (if 2 * b + 1 < 2 * a10.toInt then _ else w (2 * o + (2 * b + 1 - 2 * a10.toInt) % (2 * (a10.toInt - o)))) ∧ (if 2 * b < 2 * a10.toInt then _ else w (2 * o + (2 * b - 2 * a10.toInt) % (2 * (a10.toInt - o)))) ≤ 9
      rw [if_neg (by omega), if_neg (by omega), show 2 * b + 1 - 2 * a10.toInt = 2 * (b - a10.toInt) + 1 by omega, show 2 * b - 2 * a10.toInt = 2 * (b - a10.toInt) by omega, q.1, q.2, show 2 * o + (2 * ((b - a10.toInt) % (a10.toInt - o)) + 1) = 2 * (o + (b - a10.toInt) % (a10.toInt - o)) + 1 by omega, show 2 * o + 2 * ((b - a10.toInt) % (a10.toInt - o)) = 2 * (o + (b - a10.toInt) % (a10.toInt - o)) by omega]
      exact this
def Srt (w : Int → Int) (b : Int) : Prop := w (2 * b + 1) ≤ w (2 * b) ∧ 0 ≤ w (2 * b + 1) ∧ w (2 * b) ≤ 9
theorem ins_srt {s u : Int → Int} {b h : Int} (hs : ∀ c : Int, Srt s c) (h0 : 0 ≤ h) (h9 : h ≤ 9) (hu : insW s b h = some u) : ∀ c : Int, Srt u c := by
  intro c
  have hc := hs c
  have hb := hs b
  unfold Srt at hc hb ⊢
  unfold insW at hu
  by_cases e0 : h = 0
  · rw [if_pos e0] at hu; cases hu; exact hc
  · rw [if_neg e0] at hu
    by_cases e1 : s (2 * b + 1) ≠ 0
    · rw [if_pos e1] at hu; cases hu
    · rw [if_neg e1] at hu
      by_cases e2 : s (2 * b) < h
      · rw [if_pos e2] at hu; cases hu
        by_cases e : c = b
        · rw [e, fu_s, fu_n (by omega), fu_s]; omega
        · rw [fu_n (by omega), fu_n (by omega), fu_n (by omega), fu_n (by omega)]; exact hc
      · rw [if_neg e2] at hu; cases hu
        by_cases e : c = b
        · rw [e, fu_s, fu_n (by omega)]; omega
        · rw [fu_n (by omega), fu_n (by omega)]; exact hc
theorem bk_srt {w : Int → Int} {o n : Int} (k : Nat) : ∀ {s : Int → Int}, (∀ c : Int, 0 ≤ c → c < (k : Int) → 0 ≤ w (2 * o + c) ∧ w (2 * o + c) ≤ 9) → bkW w o n k = some s → ∀ c : Int, Srt s c := by
  induction k with
  | zero =>
    intro s _ h c
    have h : some (fun _ => (0 : Int)) = some s := h
    cases h
    exact ⟨Int.le_refl 0, Int.le_refl 0, show (0 : Int) ≤ 9 by decide⟩
  | succ k ih =>
    intro s hw h
    have h : (bkW w o n k).bind (fun s => insW s ((-((k : Int) / 2 + w (2 * o + (k : Int)))) % n) (w (2 * o + (k : Int)))) = some s := h
    cases hk : bkW w o n k with
    | none => rw [hk] at h; cases h
    | some t =>
      rw [hk] at h
      have hw9 := hw k (by omega) (by omega)
      exact ins_srt (ih (fun c c0 c1 => hw c c0 (by omega)) hk) hw9.1 hw9.2 h
theorem Ch_srt {a d : Int} {w w' : Int → Int} {o n : Int} (h : ChW a d w o n w') (ho : 0 ≤ o) (hn : 0 < n) (hw : ∀ b : Int, 0 ≤ b → b < o + n → Srt w b) : ∀ b : Int, 0 ≤ b → b < o + n → Srt w' b := by
  intro b b0 b1
  have hwb := hw b b0 b1
  unfold ChW at h
  rcases h with ⟨h1, h2⟩ | ⟨h1, h2⟩ | ⟨h1, s, h2, h3⟩ | ⟨h1, h2, h3⟩ | ⟨h1, h2⟩
  · rw [h2]; exact hwb
  · rw [h2]; exact hwb
  · rw [h3]
    unfold Srt putW
    by_cases e : o ≤ b
    · rw [if_pos (by omega), if_pos (by omega), show 2 * b + 1 - 2 * o = 2 * (b - o) + 1 by omega, show 2 * b - 2 * o = 2 * (b - o) by omega]
      refine bk_srt _ (fun c c0 c1 => ?_) h2 (b - o)
      have := hw (o + c / 2) (by omega) (by omega)
      unfold Srt at this
      rcases (show c % 2 = 0 ∨ c % 2 = 1 by omega) with q | q
      · rw [show 2 * o + c = 2 * (o + c / 2) by omega]; omega
      · rw [show 2 * o + c = 2 * (o + c / 2) + 1 by omega]; omega
    · rw [if_neg (by omega), if_neg (by omega)]; exact hwb
  · rw [h3]
    unfold Srt putW
    by_cases e : o ≤ b
    · rw [if_pos (by omega), if_pos (by omega)]
      show (if (2 * b + 1 - 2 * o) % 2 = 1 then (0 : Int) else _) ≤ (if (2 * b - 2 * o) % 2 = 1 then (0 : Int) else 9 - w (2 * (o + (-((2 * b - 2 * o) / 2)) % n))) ∧ 0 ≤ (if (2 * b + 1 - 2 * o) % 2 = 1 then (0 : Int) else _) ∧ (if (2 * b - 2 * o) % 2 = 1 then (0 : Int) else 9 - w (2 * (o + (-((2 * b - 2 * o) / 2)) % n))) ≤ 9
      rw [if_pos (by omega), if_neg (by omega)]
      have q1 := Int.emod_nonneg (-((2 * b - 2 * o) / 2)) (show n ≠ 0 by omega)
      have q2 := Int.emod_lt_of_pos (-((2 * b - 2 * o) / 2)) hn
      have := hw (o + (-((2 * b - 2 * o) / 2)) % n) (by omega) (by omega)
      unfold Srt at this
      omega
    · rw [if_neg (by omega), if_neg (by omega)]; exact hwb
  · rw [h2]
    unfold Srt putW
    by_cases e : o ≤ b
    · rw [if_pos (by omega), if_pos (by omega)]
      show w (2 * (o + ((2 * b + 1 - 2 * o) / 2 + d) % n) + (2 * b + 1 - 2 * o) % 2) ≤ w (2 * (o + ((2 * b - 2 * o) / 2 + d) % n) + (2 * b - 2 * o) % 2) ∧ 0 ≤ w (2 * (o + ((2 * b + 1 - 2 * o) / 2 + d) % n) + (2 * b + 1 - 2 * o) % 2) ∧ w (2 * (o + ((2 * b - 2 * o) / 2 + d) % n) + (2 * b - 2 * o) % 2) ≤ 9
      rw [show (2 * b + 1 - 2 * o) / 2 = b - o by omega, show (2 * b - 2 * o) / 2 = b - o by omega, show (2 * b + 1 - 2 * o) % 2 = 1 by omega, show (2 * b - 2 * o) % 2 = 0 by omega, Int.add_zero]
      have q1 := Int.emod_nonneg (b - o + d) (show n ≠ 0 by omega)
      have q2 := Int.emod_lt_of_pos (b - o + d) hn
      exact hw (o + (b - o + d) % n) (by omega) (by omega)
    · rw [if_neg (by omega), if_neg (by omega)]; exact hwb
theorem seq_closes {P ks vs : Nat → Int} {E : Int → Int × (Int → Int)} {c0 : Cf} {mt io a5 a7 a8 a10 a11 a12 n1 n2 b5 b7 b8 b11 b12 : Int32} {q3 q4 q5 q6 g3 : Nat → Int32} {ic : Nat} {o : Int} {w st op dg : Int → Int}
    (h : SI P ks vs E c0 mt io a5 a7 a8 a10 a11 a12 q3 q4 q5 q6 ic o w st op dg) (hm : ¬ (mt.toInt = 1 ∧ a7.toInt = 42)) (hi : io.toInt = 1) (h7 : a7.toInt = 41) (hd : 0 < a11.toInt) (hz1 : n1.toInt = 1) (hz2 : n2.toInt = 1) (hb11 : b11.toInt = a11.toInt - 1) (hb12 : b12.toInt = (q6 a11.toInt.toNat).toInt) (hsq : 0 ≤ (q6 (a11.toInt - 1).toNat).toInt ∧ (q6 (a11.toInt - 1).toNat).toInt ≤ (q6 a11.toInt.toNat).toInt)
    (h1 : a10.toInt - (q6 (a11.toInt - 1).toNat).toInt ≤ 24) (hc : CU P ks vs (ic + 1) b5 b7 b8) {v : Int → Int} (h2 : ChW (q4 (a11.toInt - 1).toNat).toInt (q5 (a11.toInt - 1).toNat).toInt w (q6 a11.toInt.toNat).toInt (a10.toInt - (q6 a11.toInt.toNat).toInt) v) (h3 : RS g3 v a10.toInt) :
    ∃ (ic' : Nat) (o' : Int) (w' st' op' dg' : Int → Int), SI P ks vs E c0 n1 n2 b5 b7 b8 a10 b11 b12 g3 q4 q5 q6 ic' o' w' st' op' dg' := by
  obtain ⟨k1, k2, k3, k4, k5, k6, k7, k8⟩ := h
  have s1 := k5 a11.toInt (by omega) (Int.le_refl _)
  have s0 := k5 (a11.toInt - 1) (by omega) (by omega)
  obtain ⟨p4, p5⟩ := k6 (a11.toInt - 1) (by omega) (by omega)
  have hne := k8 hi
  rw [s1] at hb12 h2 hsq
  rw [s0] at h1 hsq
  rw [p4, p5] at h2
  have hk : ks ic = a7.toInt := k2.2.1.symm
  refine ⟨ic + 1, st a11.toInt, v, st, op, dg, Go_tr k1 (Go_1 (b := (ic + 1, b11.toInt, a10.toInt, st a11.toInt, n1.toInt, n2.toInt, v, st, op, dg)) ?_), hc, h3, ?_, fun k k0 k9 => k5 k k0 (by omega), fun k k0 k9 => k6 k k0 (by omega), fun _ => ⟨hb12.symm, by omega, hne⟩, fun _ => by rw [hb11]; omega⟩
  · unfold Sqp
    dsimp only
    refine Or.inr (Or.inl ⟨by rw [hk]; exact hm, ⟨hi, by omega, hd⟩, h1, v, h2, by rw [hb11, hz1, hz2]⟩)
  · have := Ch_srt h2 (by omega) (by omega) (fun b b0 b1 => k4 b b0 (by omega))
    exact fun b b0 b1 => this b b0 (by omega)
theorem seq_opens {P ks vs : Nat → Int} {E : Int → Int × (Int → Int)} {c0 : Cf} {mt io a5 a7 a8 a10 a11 a12 n0 n1 b5 b7 b8 b11 : Int32} {q3 q4 q5 q6 g4 g5 g6 : Nat → Int32} {ic : Nat} {o : Int} {w st op dg : Int → Int}
    (h : SI P ks vs E c0 mt io a5 a7 a8 a10 a11 a12 q3 q4 q5 q6 ic o w st op dg) (hm : ¬ (mt.toInt = 1 ∧ a7.toInt = 42)) (hi : ¬ (io.toInt = 1 ∧ a7.toInt = 41 ∧ 0 < a11.toInt)) (hd : 0 ≤ a11.toInt) (hz0 : n0.toInt = 0) (hz1 : n1.toInt = 0) (hb11 : b11.toInt = a11.toInt + 1)
    (u4 : ∀ i : Int, 0 ≤ i → i ≠ a11.toInt → g4 i.toNat = q4 i.toNat) (u5 : ∀ i : Int, 0 ≤ i → i ≠ a11.toInt → g5 i.toNat = q5 i.toNat) (u6 : (∀ i : Int, 0 ≤ i → i ≠ a11.toInt + 1 → g6 i.toNat = q6 i.toNat) ∧ g6 (a11.toInt + 1).toNat = a10)
    (h1 : a11.toInt < 5 ∧ ((ks ic = 40 ∧ CU P ks vs (ic + 1) b5 b7 b8 ∧ (g4 a11.toInt.toNat).toInt = 0 ∧ (g5 a11.toInt.toNat).toInt = 0) ∨ ((7 ≤ ks ic ∧ ks ic ≤ 9) ∧ ks (ic + 1) = 40 ∧ CU P ks vs (ic + 2) b5 b7 b8 ∧ (g4 a11.toInt.toNat).toInt = ks ic ∧ (g5 a11.toInt.toNat).toInt = 0) ∨ (ks ic = 10 ∧ ks (ic + 1) = 1 ∧ ks (ic + 2) = 40 ∧ CU P ks vs (ic + 3) b5 b7 b8 ∧ (g4 a11.toInt.toNat).toInt = 10 ∧ (g5 a11.toInt.toNat).toInt = vs (ic + 1)))) :
    ∃ (ic' : Nat) (o' : Int) (w' st' op' dg' : Int → Int), SI P ks vs E c0 n0 n1 b5 b7 b8 a10 b11 a12 q3 g4 g5 g6 ic' o' w' st' op' dg' := by
  obtain ⟨k1, k2, k3, k4, k5, k6, k7, k8⟩ := h
  have hk : ks ic = a7.toInt := k2.2.1.symm
  obtain ⟨hd5, h1⟩ := h1
  have hst : ∀ k : Int, 0 ≤ k → k ≤ b11.toInt → (g6 k.toNat).toInt = fupd st (a11.toInt + 1) a10.toInt k := fun k k0 k9 => by
    by_cases e : k = a11.toInt + 1
    · rw [e, fu_s, u6.2]
    · rw [fu_n e, u6.1 k k0 e]; exact k5 k k0 (by omega)
  have hop : ∀ (x y : Int), (g4 a11.toInt.toNat).toInt = x → (g5 a11.toInt.toNat).toInt = y → ∀ k : Int, 0 ≤ k → k < b11.toInt → (g4 k.toNat).toInt = fupd op a11.toInt x k ∧ (g5 k.toNat).toInt = fupd dg a11.toInt y k := fun x y hx hy k k0 k9 => by
    by_cases e : k = a11.toInt
    · rw [e, fu_s, fu_s]; exact ⟨hx, hy⟩
    · rw [fu_n e, fu_n e, u4 k k0 e, u5 k k0 e]; exact k6 k k0 (by omega)
  rcases h1 with ⟨e1, e2, e3, e4⟩ | ⟨e1, e2, e3, e4, e5⟩ | ⟨e1, e2, e3, e4, e5, e6⟩
  · refine ⟨ic + 1, o, w, _, _, _, Go_tr k1 (Go_1 (b := (ic + 1, b11.toInt, a10.toInt, o, n0.toInt, n1.toInt, w, fupd st (a11.toInt + 1) a10.toInt, fupd op a11.toInt 0, fupd dg a11.toInt 0)) ?_), e2, k3, k4, hst, hop 0 0 e3 e4, fun q => absurd q (by omega), fun q => absurd q (by omega)⟩
    unfold Sqp
    dsimp only
    exact Or.inr (Or.inr (Or.inl ⟨by rw [hk]; exact hm, by rw [hk]; exact hi, hd5, Or.inl ⟨e1, by rw [hb11, hz0, hz1]⟩⟩))
  · refine ⟨ic + 2, o, w, _, _, _, Go_tr k1 (Go_1 (b := (ic + 2, b11.toInt, a10.toInt, o, n0.toInt, n1.toInt, w, fupd st (a11.toInt + 1) a10.toInt, fupd op a11.toInt (ks ic), fupd dg a11.toInt 0)) ?_), e3, k3, k4, hst, hop _ 0 e4 e5, fun q => absurd q (by omega), fun q => absurd q (by omega)⟩
    unfold Sqp
    dsimp only
    exact Or.inr (Or.inr (Or.inl ⟨by rw [hk]; exact hm, by rw [hk]; exact hi, hd5, Or.inr (Or.inl ⟨e1, e2, by rw [hb11, hz0, hz1]⟩)⟩))
  · refine ⟨ic + 3, o, w, _, _, _, Go_tr k1 (Go_1 (b := (ic + 3, b11.toInt, a10.toInt, o, n0.toInt, n1.toInt, w, fupd st (a11.toInt + 1) a10.toInt, fupd op a11.toInt 10, fupd dg a11.toInt (vs (ic + 1)))) ?_), e4, k3, k4, hst, hop _ _ e5 e6, fun q => absurd q (by omega), fun q => absurd q (by omega)⟩
    unfold Sqp
    dsimp only
    exact Or.inr (Or.inr (Or.inl ⟨by rw [hk]; exact hm, by rw [hk]; exact hi, hd5, Or.inr (Or.inr ⟨e1, e2, e3, by rw [hb11, hz0, hz1]⟩)⟩))
theorem seq_letter {P ks vs : Nat → Int} {E : Int → Int × (Int → Int)} {c0 : Cf} {mt io a5 a7 a8 a10 a11 a12 n1 n2 b5 b7 b8 b10 b12 : Int32} {q3 q4 q5 q6 g3 : Nat → Int32} {ic : Nat} {o : Int} {w st op dg : Int → Int}
    (h : SI P ks vs E c0 mt io a5 a7 a8 a10 a11 a12 q3 q4 q5 q6 ic o w st op dg) (h7 : a7.toInt = 2) (hd : 0 ≤ a11.toInt) (h10 : 0 ≤ a10.toInt) (hsq : (q6 a11.toInt.toNat).toInt ≤ a10.toInt) (hz1 : n1.toInt = 1) (hz2 : n2.toInt = 1) (hb12 : b12.toInt = a10.toInt)
    (hEs : ∀ b : Int, 0 ≤ b → b < (E (vs ic)).1 → Srt (E (vs ic)).2 b)
    (h1 : 0 < (E (vs ic)).1) (h2 : a10.toInt - (q6 a11.toInt.toNat).toInt + (E (vs ic)).1 ≤ 24) (hc : CU P ks vs (ic + 1) b5 b7 b8) (h3 : b10.toInt = a10.toInt + (E (vs ic)).1) (h4 : ∀ i9 : Int, 0 ≤ i9 → i9 < 6 * a10.toInt → g3 i9.toNat = q3 i9.toNat) (h5 : RSo g3 (6 * a10.toInt) (E (vs ic)).2 (E (vs ic)).1) :
    ∃ (ic' : Nat) (o' : Int) (w' st' op' dg' : Int → Int), SI P ks vs E c0 n1 n2 b5 b7 b8 b10 a11 b12 g3 q4 q5 q6 ic' o' w' st' op' dg' := by
  obtain ⟨k1, k2, k3, k4, k5, k6, k7, k8⟩ := h
  have hk : ks ic = a7.toInt := k2.2.1.symm
  have s1 := k5 a11.toInt hd (Int.le_refl _)
  rw [s1] at h2 hsq
  refine ⟨ic + 1, a10.toInt, _, st, op, dg, Go_tr k1 (Go_1 (b := (ic + 1, a11.toInt, b10.toInt, a10.toInt, n1.toInt, n2.toInt, (fun j => if j < 2 * a10.toInt then w j else (E (vs ic)).2 (j - 2 * a10.toInt)), st, op, dg)) ?_), hc, ?_, ?_, k5, k6, fun _ => ⟨hb12.symm, h10, by omega⟩, fun _ => by omega⟩
  · unfold Sqp
    dsimp only
    exact Or.inr (Or.inr (Or.inr (Or.inl ⟨by omega, by omega, h1, h2, by rw [h3, hz1, hz2]⟩)))
  · rw [h3]; exact RS_app k3 h10 h4 h5
  · intro b b0 b1
    by_cases e : b < a10.toInt
    · have := k4 b b0 e
      show (if 2 * b + 1 < 2 * a10.toInt then w (2 * b + 1) else _) ≤ (if 2 * b < 2 * a10.toInt then w (2 * b) else _) ∧ 0 ≤ (if 2 * b + 1 < 2 * a10.toInt then w (2 * b + 1) else _) ∧ (if 2 * b < 2 * a10.toInt then w (2 * b) else _) ≤ 9
      rw [if_pos (by omega), if_pos (by omega)]
      exact this
    · have := hEs (b - a10.toInt) (by omega) (by omega)
      unfold Srt at this
      show (if 2 * b + 1 < 2 * a10.toInt then _ else (E (vs ic)).2 (2 * b + 1 - 2 * a10.toInt)) ≤ (if 2 * b < 2 * a10.toInt then _ else (E (vs ic)).2 (2 * b - 2 * a10.toInt)) ∧ 0 ≤ (if 2 * b + 1 < 2 * a10.toInt then _ else (E (vs ic)).2 (2 * b + 1 - 2 * a10.toInt)) ∧ (if 2 * b < 2 * a10.toInt then _ else (E (vs ic)).2 (2 * b - 2 * a10.toInt)) ≤ 9
      rw [if_neg (by omega), if_neg (by omega), show 2 * b + 1 - 2 * a10.toInt = 2 * (b - a10.toInt) + 1 by omega, show 2 * b - 2 * a10.toInt = 2 * (b - a10.toInt) by omega]
      exact this
theorem seq_beat {P ks vs : Nat → Int} {E : Int → Int × (Int → Int)} {c0 : Cf} {mt io a5 a7 a8 a10 a11 a12 n1 n2 b5 b7 b8 b10 b12 : Int32} {q3 q4 q5 q6 g3 : Nat → Int32} {ic jc : Nat} {o x y : Int} {w st op dg : Int → Int}
    (h : SI P ks vs E c0 mt io a5 a7 a8 a10 a11 a12 q3 q4 q5 q6 ic o w st op dg) (hm : ¬ (mt.toInt = 1 ∧ a7.toInt = 42)) (h7 : a7.toInt = 1 ∨ a7.toInt = 91) (hd : 0 ≤ a11.toInt) (h10 : 0 ≤ a10.toInt) (hsq : (q6 a11.toInt.toNat).toInt ≤ a10.toInt) (hz1 : n1.toInt = 1) (hz2 : n2.toInt = 1) (hb12 : b12.toInt = a10.toInt)
    (h1 : BtR ks vs ic x y jc) (hx : y ≤ x ∧ 0 ≤ y ∧ x ≤ 9) (h2 : a10.toInt + 1 - (q6 a11.toInt.toNat).toInt ≤ 24) (hc : CU P ks vs jc b5 b7 b8) (h3 : b10.toInt = a10.toInt + 1) (h4 : ∀ i9 : Int, 0 ≤ i9 → i9 < 6 * a10.toInt → g3 i9.toNat = q3 i9.toNat) (h5 : (g3 (6 * a10.toInt).toNat).toInt = 4 * x) (h6 : (g3 (6 * a10.toInt + 1).toNat).toInt = 4 * y) :
    ∃ (ic' : Nat) (o' : Int) (w' st' op' dg' : Int → Int), SI P ks vs E c0 n1 n2 b5 b7 b8 b10 a11 b12 g3 q4 q5 q6 ic' o' w' st' op' dg' := by
  obtain ⟨k1, k2, k3, k4, k5, k6, k7, k8⟩ := h
  have hk : ks ic = a7.toInt := k2.2.1.symm
  have s1 := k5 a11.toInt hd (Int.le_refl _)
  rw [s1] at h2 hsq
  refine ⟨jc, a10.toInt, _, st, op, dg, Go_tr k1 (Go_1 (b := (jc, a11.toInt, b10.toInt, a10.toInt, n1.toInt, n2.toInt, fupd (fupd w (2 * a10.toInt) x) (2 * a10.toInt + 1) y, st, op, dg)) ?_), hc, ?_, ?_, k5, k6, fun _ => ⟨hb12.symm, h10, by omega⟩, fun _ => by omega⟩
  · unfold Sqp
    dsimp only
    exact Or.inr (Or.inr (Or.inr (Or.inr ⟨by rw [hk]; exact hm, by omega, x, y, jc, h1, h2, by rw [h3, hz1, hz2]⟩)))
  · intro c c0 c1
    by_cases e1 : c = 2 * a10.toInt + 1
    · rw [e1, fu_s, show 6 * ((2 * a10.toInt + 1) / 2) + (2 * a10.toInt + 1) % 2 = 6 * a10.toInt + 1 by omega]; exact h6
    · rw [fu_n e1]
      by_cases e2 : c = 2 * a10.toInt
      · rw [e2, fu_s, show 6 * (2 * a10.toInt / 2) + 2 * a10.toInt % 2 = 6 * a10.toInt by omega]; exact h5
      · rw [fu_n e2, h4 _ (by omega) (by omega)]; exact k3 c c0 (by omega)
  · intro b b0 b1
    by_cases e : b < a10.toInt
    · rw [fu_n (by omega), fu_n (by omega), fu_n (by omega), fu_n (by omega)]; exact k4 b b0 e
    · rw [show b = a10.toInt by omega, fu_s, fu_n (by omega), fu_s]; exact hx
