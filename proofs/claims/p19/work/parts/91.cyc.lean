/-- heights, places where throws land, counts of a row of the reference -/
def cy_h (R : Nat → Int32) (r t : Int) : Int := (R (r + 1 + t).toNat).toInt / 4
def cy_b (R : Nat → Int32) (r n t : Int) : Int := 3 * ((t / 6 + cy_h R r t) % n) + (R (r + 1 + t).toNat).toInt % 4
def cy_L (R : Nat → Int32) (r n p : Int) : Nat → Int
  | 0 => 0
  | m + 1 => cy_L R r n p m + (if cy_h R r m = 0 then 0 else if cy_b R r n m = p then 1 else 0)
def cy_T (R : Nat → Int32) (r p : Int) : Nat → Int
  | 0 => 0
  | m + 1 => cy_T R r p m + (if cy_h R r m = 0 then 0 else if (m : Int) / 2 = p then 1 else 0)
def cy_S (R : Nat → Int32) (r : Int) : Nat → Int
  | 0 => 0
  | m + 1 => cy_S R r m + cy_h R r m
/-- a good row: as many land everywhere as are thrown there -/
def cy_G (R : Nat → Int32) (r n : Int) : Prop := ∀ p : Int, 0 ≤ p → p < 3 * n → cy_L R r n p (6 * n).toNat = cy_T R r p (6 * n).toNat
theorem cy_nat {t : Int} (h : 0 ≤ t) : (t + 1).toNat = t.toNat + 1 := by omega
theorem cy_Ls {R : Nat → Int32} {r n p t : Int} (h : 0 ≤ t) : cy_L R r n p (t + 1).toNat = cy_L R r n p t.toNat + (if cy_h R r t = 0 then 0 else if cy_b R r n t = p then 1 else 0) := by
  have e2 : ((t.toNat : Nat) : Int) = t := Int.toNat_of_nonneg h
  rw [cy_nat h]
  show cy_L R r n p t.toNat + (if cy_h R r (t.toNat : Int) = 0 then 0 else if cy_b R r n (t.toNat : Int) = p then 1 else 0) = _
  rw [e2]
theorem cy_Ts {R : Nat → Int32} {r p t : Int} (h : 0 ≤ t) : cy_T R r p (t + 1).toNat = cy_T R r p t.toNat + (if cy_h R r t = 0 then 0 else if t / 2 = p then 1 else 0) := by
  have e2 : ((t.toNat : Nat) : Int) = t := Int.toNat_of_nonneg h
  rw [cy_nat h]
  show cy_T R r p t.toNat + (if cy_h R r (t.toNat : Int) = 0 then 0 else if (t.toNat : Int) / 2 = p then 1 else 0) = _
  rw [e2]
theorem cy_Ss {R : Nat → Int32} {r t : Int} (h : 0 ≤ t) : cy_S R r (t + 1).toNat = cy_S R r t.toNat + cy_h R r t := by
  have e2 : ((t.toNat : Nat) : Int) = t := Int.toNat_of_nonneg h
  rw [cy_nat h]
  show cy_S R r t.toNat + cy_h R r (t.toNat : Int) = _
  rw [e2]
theorem cy_Lb (R : Nat → Int32) (r n p : Int) (m : Nat) : 0 ≤ cy_L R r n p m ∧ cy_L R r n p m ≤ (m : Int) := by
  induction m with
  | zero => exact ⟨Int.le_refl 0, Int.le_refl 0⟩
  | succ m ih =>
    have e : cy_L R r n p (m + 1) = cy_L R r n p m + (if cy_h R r m = 0 then 0 else if cy_b R r n m = p then 1 else 0) := rfl
    rw [e]
    split
    · omega
    · split <;> omega
theorem cy_Tb (R : Nat → Int32) (r p : Int) (m : Nat) : 0 ≤ cy_T R r p m ∧ cy_T R r p m ≤ (m : Int) := by
  induction m with
  | zero => exact ⟨Int.le_refl 0, Int.le_refl 0⟩
  | succ m ih =>
    have e : cy_T R r p (m + 1) = cy_T R r p m + (if cy_h R r m = 0 then 0 else if (m : Int) / 2 = p then 1 else 0) := rfl
    rw [e]
    split
    · omega
    · split <;> omega
theorem cy_Lm (R : Nat → Int32) (r n p : Int) (m k : Nat) : cy_L R r n p m ≤ cy_L R r n p (m + k) := by
  induction k with
  | zero => exact Int.le_refl _
  | succ k ih =>
    have e : cy_L R r n p (m + (k + 1)) = cy_L R r n p (m + k) + (if cy_h R r ((m + k : Nat) : Int) = 0 then 0 else if cy_b R r n ((m + k : Nat) : Int) = p then 1 else 0) := rfl
    rw [e]
    split
    · omega
    · split <;> omega
theorem cy_Lmi {R : Nat → Int32} {r n p s t : Int} (h : 0 ≤ s) (h1 : s ≤ t) : cy_L R r n p s.toNat ≤ cy_L R r n p t.toNat := by
  have := cy_Lm R r n p s.toNat (t.toNat - s.toNat)
  rw [show s.toNat + (t.toNat - s.toNat) = t.toNat by omega] at this
  exact this
theorem cy_T2 (R : Nat → Int32) (r p : Int) (hp : 0 ≤ p) (m : Nat) : cy_T R r p m = (if (m : Int) ≤ 2 * p then 0 else if cy_h R r (2 * p) = 0 then 0 else 1) + (if (m : Int) ≤ 2 * p + 1 then 0 else if cy_h R r (2 * p + 1) = 0 then 0 else 1) := by
  induction m with
  | zero =>
    rw [if_pos (by omega), if_pos (by omega)]; rfl
  | succ m ih =>
    have e : cy_T R r p (m + 1) = cy_T R r p m + (if cy_h R r m = 0 then 0 else if (m : Int) / 2 = p then 1 else 0) := rfl
    have c1 : (m : Int) = 2 * p → cy_h R r m = cy_h R r (2 * p) := fun q => by rw [q]
    have c2 : (m : Int) = 2 * p + 1 → cy_h R r m = cy_h R r (2 * p + 1) := fun q => by rw [q]
    rw [e, ih]
    generalize cy_h R r m = u at c1 c2
    generalize cy_h R r (2 * p) = v at c1
    generalize cy_h R r (2 * p + 1) = w at c2
    repeat' split
    all_goals omega
theorem cy_T6 {R : Nat → Int32} {r n p : Int} (hp : 0 ≤ p) (hn : p < 3 * n) : cy_T R r p (6 * n).toNat = (if cy_h R r (2 * p) = 0 then 0 else 1) + (if cy_h R r (2 * p + 1) = 0 then 0 else 1) := by
  rw [cy_T2 R r p hp, if_neg (show ¬ (((6 * n).toNat : Nat) : Int) ≤ 2 * p by omega), if_neg (show ¬ (((6 * n).toNat : Nat) : Int) ≤ 2 * p + 1 by omega)]
theorem cy_c {jn : Nat} {R : Nat → Int32} {r n t : Int} (hC : CellsX jn R (r + 1) (r + 1 + 6 * n)) (h0 : 0 ≤ t) (h1 : t < 6 * n) : CellX jn (R (r + 1 + t).toNat) := hC.1 _ (by omega) (by omega)
theorem cy_hb {jn : Nat} {R : Nat → Int32} {r n t : Int} (hC : CellsX jn R (r + 1) (r + 1 + 6 * n)) (h0 : 0 ≤ t) (h1 : t < 6 * n) : 0 ≤ cy_h R r t ∧ cy_h R r t ≤ 9 := by
  obtain ⟨a1, a2, a3, a4⟩ := cy_c hC h0 h1
  unfold cy_h
  omega
theorem cy_Sb {jn : Nat} {R : Nat → Int32} {r n : Int} (hC : CellsX jn R (r + 1) (r + 1 + 6 * n)) (m : Nat) : (m : Int) ≤ 6 * n → 0 ≤ cy_S R r m ∧ cy_S R r m ≤ 9 * (m : Int) := by
  induction m with
  | zero => intro _; exact ⟨Int.le_refl 0, Int.le_refl 0⟩
  | succ m ih =>
    intro h
    have h1 := ih (by omega)
    have h2 := cy_hb hC (t := (m : Int)) (by omega) (by omega)
    have e : cy_S R r (m + 1) = cy_S R r m + cy_h R r m := rfl
    rw [e]
    omega
theorem cy_bb {jn : Nat} {R : Nat → Int32} {r n t : Int} (hj : jn ≤ 3) (hn : 1 ≤ n) (hC : CellsX jn R (r + 1) (r + 1 + 6 * n)) (h0 : 0 ≤ t) (h1 : t < 6 * n) : 0 ≤ cy_b R r n t ∧ cy_b R r n t < 3 * n ∧ cy_b R r n t % 3 < (jn : Int) := by
  obtain ⟨a1, a2, a3, a4⟩ := cy_c hC h0 h1
  unfold cy_b
  have q1 := Int.emod_nonneg (t / 6 + cy_h R r t) (show n ≠ 0 by omega)
  have q2 := Int.emod_lt_of_pos (t / 6 + cy_h R r t) (show 0 < n by omega)
  generalize (t / 6 + cy_h R r t) % n = u at q1 q2
  omega
/-- how many land at a place of a good row, and which are thrown there -/
theorem cy_many {jn : Nat} {R : Nat → Int32} {r n p : Int} (hC : CellsX jn R (r + 1) (r + 1 + 6 * n)) (hG : cy_G R r n) (h0 : 0 ≤ p) (h1 : p < 3 * n) : 0 ≤ cy_L R r n p (6 * n).toNat ∧ cy_L R r n p (6 * n).toNat ≤ 2 ∧ (0 < cy_L R r n p (6 * n).toNat ↔ cy_h R r (2 * p) ≠ 0) ∧ (1 < cy_L R r n p (6 * n).toNat ↔ cy_h R r (2 * p + 1) ≠ 0) := by
  rw [hG p h0 h1, cy_T6 h0 h1]
  have z := hC.2 p h0 (by omega)
  obtain ⟨a1, a2, a3, a4⟩ := cy_c hC (t := 2 * p) (by omega) (by omega)
  obtain ⟨b1, b2, b3, b4⟩ := cy_c hC (t := 2 * p + 1) (by omega) (by omega)
  rw [show r + 1 + 2 * p + 1 = r + 1 + (2 * p + 1) by omega] at z
  have e : cy_h R r (2 * p) = 0 → cy_h R r (2 * p + 1) = 0 := by unfold cy_h; omega
  generalize cy_h R r (2 * p) = u at e
  generalize cy_h R r (2 * p + 1) = v at e
  repeat' split
  all_goals omega
/-- the counts of weigh, a throw more -/
theorem cy_ws {R : Nat → Int32} {r n t a b : Int} {g g1 g2 : Nat → Int32} {z1 z2 : Int32} (h : ∀ p : Int, 0 ≤ p → p < 3 * n → (g p.toNat).toInt = cy_L R r n p t.toNat - cy_T R r p t.toNat) (ht : 0 ≤ t) (hh : cy_h R r t ≠ 0) (ha : t / 2 = a) (hb : cy_b R r n t = b) (ha0 : 0 ≤ a) (hb0 : 0 ≤ b) (h1 : g1 = upd g a.toNat z1) (e1 : z1.toInt = (g a.toNat).toInt - 1) (h2 : g2 = upd g1 b.toNat z2) (e2 : z2.toInt = (g1 b.toNat).toInt + 1) : ∀ p : Int, 0 ≤ p → p < 3 * n → (g2 p.toNat).toInt = cy_L R r n p (t + 1).toNat - cy_T R r p (t + 1).toNat := by
  intro p p0 p1
  have h9 := h p p0 p1
  rw [cy_Ls ht, cy_Ts ht, if_neg hh, if_neg hh, ha, hb]
  have k1 : ∀ i : Int, 0 ≤ i → i ≠ a → g1 i.toNat = g i.toNat := fun i i0 i1 => by rw [h1, un_i i0 ha0 i1]
  have k2 : g1 a.toNat = z1 := by rw [h1, pk_us]
  by_cases q2 : p = b
  · rw [h2, q2, pk_us, e2, if_pos rfl]
    by_cases q1 : b = a
    · rw [if_pos q1.symm, q1, k2, e1, ← q1, ← q2]; omega
    · rw [if_neg (fun q => q1 q.symm), k1 b hb0 q1, ← q2]; omega
  · rw [h2, un_i p0 hb0 q2, if_neg (fun q => q2 q.symm)]
    by_cases q1 : p = a
    · rw [q1, k2, e1, if_pos rfl, ← q1]; omega
    · rw [k1 p p0 q1, if_neg (fun q => q1 q.symm)]; omega
theorem cy_w0 {R : Nat → Int32} {r n t : Int} {g : Nat → Int32} (h : ∀ p : Int, 0 ≤ p → p < 3 * n → (g p.toNat).toInt = cy_L R r n p t.toNat - cy_T R r p t.toNat) (ht : 0 ≤ t) (hh : cy_h R r t = 0) : ∀ p : Int, 0 ≤ p → p < 3 * n → (g p.toNat).toInt = cy_L R r n p (t + 1).toNat - cy_T R r p (t + 1).toNat := by
  intro p p0 p1
  rw [cy_Ls ht, cy_Ts ht, if_pos hh, if_pos hh, h p p0 p1]
  omega
/-- a throw that is there -/
def cy_O (R : Nat → Int32) (r n : Int) (v : Int32) : Prop := 0 ≤ v.toInt ∧ v.toInt < 6 * n ∧ cy_h R r v.toInt ≠ 0
def cy_GO (R : Nat → Int32) (r n : Int) (g : Nat → Int32) (P : Int) : Prop := ∀ t : Int, 0 ≤ t → t < 6 * n → cy_h R r t ≠ 0 → cy_b R r n t < P → cy_O R r n (g t.toNat)
def cy_CO (R : Nat → Int32) (r n : Int) (g : Nat → Int32) (P : Int) : Prop := ∀ t : Int, 0 ≤ t → t < 6 * n → cy_h R r t ≠ 0 → t / 2 < P → cy_O R r n (g t.toNat)
theorem cy_Ou {R : Nat → Int32} {r n : Int} {g : Nat → Int32} {k : Int} {v : Int32} {t : Int} (ht : 0 ≤ t) (hk : 0 ≤ k) (hv : cy_O R r n v) (h : t ≠ k → cy_O R r n (g t.toNat)) : cy_O R r n (upd g k.toNat v t.toNat) := by
  by_cases q : t = k
  · rw [q, pk_us]; exact hv
  · rw [un_i ht hk q]; exact h q
theorem cy_GOu {R : Nat → Int32} {r n : Int} {g : Nat → Int32} {k P : Int} {v : Int32} (h : cy_GO R r n g P) (hk : 0 ≤ k) (hv : cy_O R r n v) : cy_GO R r n (upd g k.toNat v) P := fun t t0 t1 t2 t3 => cy_Ou t0 hk hv (fun _ => h t t0 t1 t2 t3)
theorem cy_COu {R : Nat → Int32} {r n : Int} {g : Nat → Int32} {k P : Int} {v : Int32} (h : cy_CO R r n g P) (hk : 0 ≤ k) (hv : cy_O R r n v) : cy_CO R r n (upd g k.toNat v) P := fun t t0 t1 t2 t3 => cy_Ou t0 hk hv (fun _ => h t t0 t1 t2 t3)
theorem cy_GO3 {jn : Nat} {R : Nat → Int32} {r n i : Int} {g : Nat → Int32} (hj : jn ≤ 3) (hn : 1 ≤ n) (hC : CellsX jn R (r + 1) (r + 1 + 6 * n)) (h : cy_GO R r n g (3 * i + jn)) : cy_GO R r n g (3 * (i + 1)) := fun t t0 t1 t2 t3 => h t t0 t1 t2 (by have := cy_bb hj hn hC t0 t1; omega)
theorem cy_CO3 {jn : Nat} {R : Nat → Int32} {r n i : Int} {g : Nat → Int32} (hZ : ZX jn R (r + 1) n) (h : cy_CO R r n g (3 * i + jn)) : cy_CO R r n g (3 * (i + 1)) := fun t t0 t1 t2 t3 => h t t0 t1 t2 (by
  by_cases q : t / 2 < 3 * i + jn
  · exact q
  · exfalso
    have z := hZ (t / 6) (t % 6) (by omega) (by omega) (by omega) (by omega)
    rw [show r + 1 + 6 * (t / 6) + t % 6 = r + 1 + t by omega] at z
    apply t2
    unfold cy_h
    omega)
theorem cy_GO1 {R : Nat → Int32} {r n P M : Int} {g L : Nat → Int32} (h : cy_GO R r n g P) (h1 : ∀ k : Int, 0 ≤ k → k < M → cy_O R r n (g (L k.toNat).toInt.toNat)) (h2 : ∀ t : Int, 0 ≤ t → t < 6 * n → cy_h R r t ≠ 0 → cy_b R r n t = P → ∃ k : Int, 0 ≤ k ∧ k < M ∧ (L k.toNat).toInt = t) : cy_GO R r n g (P + 1) := by
  intro t t0 t1 t2 t3
  by_cases q : cy_b R r n t < P
  · exact h t t0 t1 t2 q
  · obtain ⟨k, k0, k1, k2⟩ := h2 t t0 t1 t2 (by omega)
    have := h1 k k0 k1
    rw [k2] at this
    exact this
theorem cy_CO1 {R : Nat → Int32} {r n P M : Int} {g : Nat → Int32} (h : cy_CO R r n g P) (h1 : ∀ k : Int, 0 ≤ k → k < M → cy_O R r n (g (2 * P + k).toNat)) (h2 : (0 < M ↔ cy_h R r (2 * P) ≠ 0) ∧ (1 < M ↔ cy_h R r (2 * P + 1) ≠ 0)) : cy_CO R r n g (P + 1) := by
  intro t t0 t1 t2 t3
  by_cases q : t / 2 < P
  · exact h t t0 t1 t2 q
  · rcases (show t = 2 * P + 0 ∨ t = 2 * P + 1 by omega) with e | e
    · rw [e] at t2 ⊢
      rw [Int.add_zero] at t2
      exact h1 0 (by omega) (h2.1.mpr t2)
    · rw [e] at t2 ⊢
      exact h1 1 (by omega) (h2.2.mpr t2)
theorem cy_m1 {x : Int32} (h : x.toInt = -1) : x = -1 := Int32.toInt_inj.mp (by rw [h]; decide)
theorem cy_n1 {x : Int32} (h : 0 ≤ x.toInt) : ¬ x = -1 := fun q => by rw [q] at h; exact absurd h (by decide)
