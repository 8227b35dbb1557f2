/-- sums and the number of balls in the air -/
def ce (x d : Int) : Int := if x = d then 1 else 0
def cg (x d : Int) : Int := if d ≤ x then 1 else 0
def cf (x d : Int) : Int := if d ≤ x then x - d + 1 else 0
theorem cg_s (x d : Int) : cg x (d + 1) = cg x d - ce x d := by
  unfold cg ce
  repeat' split
  all_goals omega
theorem cf_s (x d : Int) : cf x (d + 1) = cf x d - cg x d := by
  unfold cf cg
  repeat' split
  all_goals omega
theorem cg_9 {x : Int} (h : x ≤ 9) : cg x 9 = ce x 9 := by
  unfold cg ce
  repeat' split
  all_goals omega
theorem cf_9 {x : Int} (h : x ≤ 9) : cf x 9 = cg x 9 := by
  unfold cf cg
  repeat' split
  all_goals omega
theorem cf_1 {x : Int} (h : 0 ≤ x) : cf x 1 = x := by
  unfold cf
  split
  all_goals omega
theorem ce_nn (x d : Int) : 0 ≤ ce x d := by
  unfold ce
  split
  all_goals omega
def bE (u : Int → Int) : Int := cg (u 1) 1 + cg (u 2) 2 + cg (u 3) 3 + cg (u 4) 4 + cg (u 5) 5 + cg (u 6) 6 + cg (u 7) 7 + cg (u 8) 8 + cg (u 9) 9
def bZ (u : Int → Int) : Int := ce (u 1) 1 + ce (u 2) 2 + ce (u 3) 3 + ce (u 4) 4 + ce (u 5) 5 + ce (u 6) 6 + ce (u 7) 7 + ce (u 8) 8 + ce (u 9) 9
def bF (u : Int → Int) : Int := cf (u 1) 1 + cf (u 2) 2 + cf (u 3) 3 + cf (u 4) 4 + cf (u 5) 5 + cf (u 6) 6 + cf (u 7) 7 + cf (u 8) 8 + cf (u 9) 9
theorem b_step {u v : Int → Int} {x : Int} (h1 : v 1 = x) (h2 : v 2 = u 1) (h3 : v 3 = u 2) (h4 : v 4 = u 3) (h5 : v 5 = u 4) (h6 : v 6 = u 5) (h7 : v 7 = u 6) (h8 : v 8 = u 7) (h9 : v 9 = u 8) (hx : 0 ≤ x) (hu : u 9 ≤ 9) (hZ : bZ u = cg x 1) : bE v = bE u ∧ bF v = x + bF u - bE u := by
  unfold bZ at hZ
  unfold bE bF
  rw [h1, h2, h3, h4, h5, h6, h7, h8, h9]
  have g1 : cg (u 1) 2 = cg (u 1) 1 - ce (u 1) 1 := cg_s (u 1) 1
  have g2 : cg (u 2) 3 = cg (u 2) 2 - ce (u 2) 2 := cg_s (u 2) 2
  have g3 : cg (u 3) 4 = cg (u 3) 3 - ce (u 3) 3 := cg_s (u 3) 3
  have g4 : cg (u 4) 5 = cg (u 4) 4 - ce (u 4) 4 := cg_s (u 4) 4
  have g5 : cg (u 5) 6 = cg (u 5) 5 - ce (u 5) 5 := cg_s (u 5) 5
  have g6 : cg (u 6) 7 = cg (u 6) 6 - ce (u 6) 6 := cg_s (u 6) 6
  have g7 : cg (u 7) 8 = cg (u 7) 7 - ce (u 7) 7 := cg_s (u 7) 7
  have g8 : cg (u 8) 9 = cg (u 8) 8 - ce (u 8) 8 := cg_s (u 8) 8
  have g9 := cg_9 hu
  have k1 : cf (u 1) 2 = cf (u 1) 1 - cg (u 1) 1 := cf_s (u 1) 1
  have k2 : cf (u 2) 3 = cf (u 2) 2 - cg (u 2) 2 := cf_s (u 2) 2
  have k3 : cf (u 3) 4 = cf (u 3) 3 - cg (u 3) 3 := cf_s (u 3) 3
  have k4 : cf (u 4) 5 = cf (u 4) 4 - cg (u 4) 4 := cf_s (u 4) 4
  have k5 : cf (u 5) 6 = cf (u 5) 5 - cg (u 5) 5 := cf_s (u 5) 5
  have k6 : cf (u 6) 7 = cf (u 6) 6 - cg (u 6) 6 := cf_s (u 6) 6
  have k7 : cf (u 7) 8 = cf (u 7) 7 - cg (u 7) 7 := cf_s (u 7) 7
  have k8 : cf (u 8) 9 = cf (u 8) 8 - cg (u 8) 8 := cf_s (u 8) 8
  have k9 := cf_9 hu
  have k0 := cf_1 hx
  constructor
  · omega
  · omega
def sS (f : Nat → Int) : Nat → Int
  | 0 => 0
  | m + 1 => sS f m + f m
theorem sS_c {f g : Nat → Int} (m : Nat) (h : ∀ i, i < m → f i = g i) : sS f m = sS g m := by
  induction m with
  | zero => rfl
  | succ m ih =>
    show sS f m + f m = sS g m + g m
    rw [ih (fun i hi => h i (by omega)), h m (by omega)]
theorem sS_9 (F : Nat → Nat → Int) (m : Nat) : sS (fun i => F 1 i + F 2 i + F 3 i + F 4 i + F 5 i + F 6 i + F 7 i + F 8 i + F 9 i) m = sS (F 1) m + sS (F 2) m + sS (F 3) m + sS (F 4) m + sS (F 5) m + sS (F 6) m + sS (F 7) m + sS (F 8) m + sS (F 9) m := by
  induction m with
  | zero => rfl
  | succ m ih =>
    show sS (fun i => F 1 i + F 2 i + F 3 i + F 4 i + F 5 i + F 6 i + F 7 i + F 8 i + F 9 i) m + (F 1 m + F 2 m + F 3 m + F 4 m + F 5 m + F 6 m + F 7 m + F 8 m + F 9 m) = (sS (F 1) m + F 1 m) + (sS (F 2) m + F 2 m) + (sS (F 3) m + F 3 m) + (sS (F 4) m + F 4 m) + (sS (F 5) m + F 5 m) + (sS (F 6) m + F 6 m) + (sS (F 7) m + F 7 m) + (sS (F 8) m + F 8 m) + (sS (F 9) m + F 9 m)
    rw [ih]
    omega
theorem sS_1 {f : Nat → Int} {c : Int} (m : Nat) (hc : 0 ≤ c) (h : ∀ i : Nat, (i : Int) ≠ c → f i = 0) : sS f m = if c < (m : Int) then f c.toNat else 0 := by
  induction m with
  | zero => rw [if_neg (by omega)]; rfl
  | succ m ih =>
    show sS f m + f m = _
    rw [ih]
    by_cases e : (m : Int) = c
    · rw [if_neg (by omega), if_pos (by omega), show c.toNat = m by omega]; omega
    · rw [h m e]
      by_cases q : c < (m : Int)
      · rw [if_pos q, if_pos (by omega)]; omega
      · rw [if_neg q, if_neg (by omega)]; omega
theorem md_u {x n i k : Int} (h0 : 0 ≤ i) (h1 : i < n) (e : x = i + n * k) : x % n = i := by
  rw [e, Int.add_mul_emod_self_left, Int.emod_eq_of_lt h0 h1]
theorem md_k {i n b d : Int} (h0 : 0 ≤ i) (h1 : i < n) : i = (b - d) % n ↔ (i + d) % n = b % n := by
  have hn : 0 < n := by omega
  have e1 := Int.emod_add_mul_ediv (b - d) n
  have e2 := Int.emod_add_mul_ediv b n
  have e3 := Int.emod_add_mul_ediv (i + d) n
  have p1 := Int.emod_nonneg b (show n ≠ 0 by omega)
  have p2 := Int.emod_lt_of_pos b hn
  constructor
  · intro h
    refine md_u (k := b / n - (b - d) / n) p1 p2 ?_
    rw [← h] at e1
    rw [Int.mul_sub]
    omega
  · intro h
    symm
    refine md_u (k := b / n - (i + d) / n) h0 h1 ?_
    rw [h] at e3
    rw [Int.mul_sub]
    omega
theorem c_sum9 {x i b n : Int} (hx : 0 ≤ x) (hx9 : x ≤ 9) (h0 : 0 ≤ i) (h1 : i < n) : (if x = 0 then (0 : Int) else if (i + x) % n = b % n then 1 else 0) = (if i = (b - 1) % n then ce x 1 else 0) + (if i = (b - 2) % n then ce x 2 else 0) + (if i = (b - 3) % n then ce x 3 else 0) + (if i = (b - 4) % n then ce x 4 else 0) + (if i = (b - 5) % n then ce x 5 else 0) + (if i = (b - 6) % n then ce x 6 else 0) + (if i = (b - 7) % n then ce x 7 else 0) + (if i = (b - 8) % n then ce x 8 else 0) + (if i = (b - 9) % n then ce x 9 else 0) := by
  have key : ∀ d : Int, i = (b - d) % n ↔ (i + d) % n = b % n := fun d => md_k h0 h1
  have z : ∀ (d : Int) (P : Prop) (hd : Decidable P), x ≠ d → (if P then ce x d else 0) = 0 := fun d P hd q => by
    unfold ce
    rw [if_neg q]
    split <;> rfl
  by_cases e0 : x = 0
  · rw [if_pos e0, z 1 _ _ (by omega), z 2 _ _ (by omega), z 3 _ _ (by omega), z 4 _ _ (by omega), z 5 _ _ (by omega), z 6 _ _ (by omega), z 7 _ _ (by omega), z 8 _ _ (by omega), z 9 _ _ (by omega)]; rfl
  · rw [if_neg e0]
    have y : ∀ d : Int, x = d → (if i = (b - d) % n then ce x d else 0) = (if (i + x) % n = b % n then 1 else 0) := fun d q => by
      unfold ce
      rw [if_pos q]
      by_cases w : (i + x) % n = b % n
      · rw [if_pos w, if_pos ((key d).mpr (by rw [← q]; exact w))]
      · rw [if_neg w, if_neg (fun w2 => w (by rw [q]; exact (key d).mp w2))]
    rcases (show x = 1 ∨ x = 2 ∨ x = 3 ∨ x = 4 ∨ x = 5 ∨ x = 6 ∨ x = 7 ∨ x = 8 ∨ x = 9 by omega) with q | q | q | q | q | q | q | q | q
    · rw [y 1 q, z 2 _ _ (by omega), z 3 _ _ (by omega), z 4 _ _ (by omega), z 5 _ _ (by omega), z 6 _ _ (by omega), z 7 _ _ (by omega), z 8 _ _ (by omega), z 9 _ _ (by omega)]; omega
    · rw [y 2 q, z 1 _ _ (by omega), z 3 _ _ (by omega), z 4 _ _ (by omega), z 5 _ _ (by omega), z 6 _ _ (by omega), z 7 _ _ (by omega), z 8 _ _ (by omega), z 9 _ _ (by omega)]; omega
    · rw [y 3 q, z 1 _ _ (by omega), z 2 _ _ (by omega), z 4 _ _ (by omega), z 5 _ _ (by omega), z 6 _ _ (by omega), z 7 _ _ (by omega), z 8 _ _ (by omega), z 9 _ _ (by omega)]; omega
    · rw [y 4 q, z 1 _ _ (by omega), z 2 _ _ (by omega), z 3 _ _ (by omega), z 5 _ _ (by omega), z 6 _ _ (by omega), z 7 _ _ (by omega), z 8 _ _ (by omega), z 9 _ _ (by omega)]; omega
    · rw [y 5 q, z 1 _ _ (by omega), z 2 _ _ (by omega), z 3 _ _ (by omega), z 4 _ _ (by omega), z 6 _ _ (by omega), z 7 _ _ (by omega), z 8 _ _ (by omega), z 9 _ _ (by omega)]; omega
    · rw [y 6 q, z 1 _ _ (by omega), z 2 _ _ (by omega), z 3 _ _ (by omega), z 4 _ _ (by omega), z 5 _ _ (by omega), z 7 _ _ (by omega), z 8 _ _ (by omega), z 9 _ _ (by omega)]; omega
    · rw [y 7 q, z 1 _ _ (by omega), z 2 _ _ (by omega), z 3 _ _ (by omega), z 4 _ _ (by omega), z 5 _ _ (by omega), z 6 _ _ (by omega), z 8 _ _ (by omega), z 9 _ _ (by omega)]; omega
    · rw [y 8 q, z 1 _ _ (by omega), z 2 _ _ (by omega), z 3 _ _ (by omega), z 4 _ _ (by omega), z 5 _ _ (by omega), z 6 _ _ (by omega), z 7 _ _ (by omega), z 9 _ _ (by omega)]; omega
    · rw [y 9 q, z 1 _ _ (by omega), z 2 _ _ (by omega), z 3 _ _ (by omega), z 4 _ _ (by omega), z 5 _ _ (by omega), z 6 _ _ (by omega), z 7 _ _ (by omega), z 8 _ _ (by omega)]; omega
/-- a row for one juggler, one throw a beat -/
def cy_P (R : Nat → Int32) (r n : Int) : Prop := (∀ t : Int, 0 ≤ t → t < 6 * n → t % 6 ≠ 0 → cy_h R r t = 0) ∧ ∀ t : Int, 0 ≤ t → t < 6 * n → (R (r + 1 + t).toNat).toInt % 4 = 0
theorem cy_L0 {R : Nat → Int32} {r n p : Int} {m : Nat} (h : cy_h R r m = 0) : cy_L R r n p (m + 1) = cy_L R r n p m := by
  show cy_L R r n p m + (if cy_h R r m = 0 then 0 else if cy_b R r n m = p then 1 else 0) = _
  rw [if_pos h]; omega
theorem cy_S0 {R : Nat → Int32} {r : Int} {m : Nat} (h : cy_h R r m = 0) : cy_S R r (m + 1) = cy_S R r m := by
  show cy_S R r m + cy_h R r m = _
  rw [h]; omega
theorem cy_L6 {R : Nat → Int32} {r n b : Int} (hP : cy_P R r n) (m : Nat) (hm : (m : Int) ≤ n) : cy_L R r n (3 * b) (6 * m) = sS (fun i => if cy_h R r (6 * (i : Int)) = 0 then 0 else if ((i : Int) + cy_h R r (6 * (i : Int))) % n = b then 1 else 0) m := by
  induction m with
  | zero => rfl
  | succ m ih =>
    have ih := ih (by omega)
    rw [show 6 * (m + 1) = 6 * m + 1 + 1 + 1 + 1 + 1 + 1 by omega]
    rw [cy_L0 (hP.1 _ (by omega) (by omega) (by omega)), cy_L0 (hP.1 _ (by omega) (by omega) (by omega)), cy_L0 (hP.1 _ (by omega) (by omega) (by omega)), cy_L0 (hP.1 _ (by omega) (by omega) (by omega)), cy_L0 (hP.1 _ (by omega) (by omega) (by omega))]
    show cy_L R r n (3 * b) (6 * m) + (if cy_h R r ((6 * m : Nat) : Int) = 0 then 0 else if cy_b R r n ((6 * m : Nat) : Int) = 3 * b then 1 else 0) = sS _ m + (if cy_h R r (6 * (m : Int)) = 0 then 0 else if ((m : Int) + cy_h R r (6 * (m : Int))) % n = b then 1 else 0)
    rw [ih, show ((6 * m : Nat) : Int) = 6 * (m : Int) by omega]
    have e : cy_b R r n (6 * (m : Int)) = 3 * (((m : Int) + cy_h R r (6 * (m : Int))) % n) := by
      unfold cy_b
      rw [hP.2 _ (by omega) (by omega), show 6 * (m : Int) / 6 = (m : Int) by omega]; omega
    rw [e]
    congr 1
    split
    · rfl
    · split
      · rw [if_pos (by omega)]
      · rw [if_neg (by omega)]
theorem cy_S6 {R : Nat → Int32} {r n : Int} (hP : cy_P R r n) (m : Nat) (hm : (m : Int) ≤ n) : cy_S R r (6 * m) = sS (fun i => cy_h R r (6 * (i : Int))) m := by
  induction m with
  | zero => rfl
  | succ m ih =>
    have ih := ih (by omega)
    rw [show 6 * (m + 1) = 6 * m + 1 + 1 + 1 + 1 + 1 + 1 by omega]
    rw [cy_S0 (hP.1 _ (by omega) (by omega) (by omega)), cy_S0 (hP.1 _ (by omega) (by omega) (by omega)), cy_S0 (hP.1 _ (by omega) (by omega) (by omega)), cy_S0 (hP.1 _ (by omega) (by omega) (by omega)), cy_S0 (hP.1 _ (by omega) (by omega) (by omega))]
    show cy_S R r (6 * m) + cy_h R r ((6 * m : Nat) : Int) = sS _ m + cy_h R r (6 * (m : Int))
    rw [ih, show ((6 * m : Nat) : Int) = 6 * (m : Int) by omega]
/-- the throw at any beat -/
def cy_a (R : Nat → Int32) (r n s : Int) : Int := cy_h R r (6 * (s % n))
theorem cy_ab {jn : Nat} {R : Nat → Int32} {r n s : Int} (hn : 1 ≤ n) (hC : CellsX jn R (r + 1) (r + 1 + 6 * n)) : 0 ≤ cy_a R r n s ∧ cy_a R r n s ≤ 9 := by
  have q1 := Int.emod_nonneg s (show n ≠ 0 by omega)
  have q2 := Int.emod_lt_of_pos s (show 0 < n by omega)
  exact cy_hb hC (by omega) (by omega)
theorem cy_one {R : Nat → Int32} {r n b d : Int} (hn : 1 ≤ n) : sS (fun i => if (i : Int) = (b - d) % n then ce (cy_h R r (6 * (i : Int))) d else 0) n.toNat = ce (cy_a R r n (b - d)) d := by
  have q1 := Int.emod_nonneg (b - d) (show n ≠ 0 by omega)
  have q2 := Int.emod_lt_of_pos (b - d) (show 0 < n by omega)
  rw [sS_1 (c := (b - d) % n) n.toNat q1 (fun i hi => if_neg hi), if_pos (by omega), Int.toNat_of_nonneg q1, if_pos rfl]
  rfl
def cF (R : Nat → Int32) (r n b : Int) (d i : Nat) : Int := if (i : Int) = (b - (d : Int)) % n then ce (cy_h R r (6 * (i : Int))) (d : Int) else 0
/-- as many land at a beat as are thrown there: one or none -/
theorem cy_Z {jn : Nat} {R : Nat → Int32} {r n b : Int} (hn : 1 ≤ n) (hC : CellsX jn R (r + 1) (r + 1 + 6 * n)) (hP : cy_P R r n) (hG : cy_G R r n) : bZ (fun d => cy_a R r n (b - d)) = cg (cy_a R r n b) 1 := by
  have q1 := Int.emod_nonneg b (show n ≠ 0 by omega)
  have q2 := Int.emod_lt_of_pos b (show 0 < n by omega)
  have e1 := hG (3 * (b % n)) (by omega) (by omega)
  have e2 := cy_T6 (R := R) (r := r) (n := n) (p := 3 * (b % n)) (by omega) (by omega)
  rw [hP.1 (2 * (3 * (b % n)) + 1) (by omega) (by omega) (by omega), if_pos rfl, show 2 * (3 * (b % n)) = 6 * (b % n) by omega] at e2
  have e3 := cy_L6 (b := b % n) hP n.toNat (by omega)
  rw [show 6 * n.toNat = (6 * n).toNat by omega, e1, e2] at e3
  have e4 : sS (fun i => if cy_h R r (6 * (i : Int)) = 0 then 0 else if ((i : Int) + cy_h R r (6 * (i : Int))) % n = b % n then 1 else 0) n.toNat = sS (fun i => cF R r n b 1 i + cF R r n b 2 i + cF R r n b 3 i + cF R r n b 4 i + cF R r n b 5 i + cF R r n b 6 i + cF R r n b 7 i + cF R r n b 8 i + cF R r n b 9 i) n.toNat := by
    refine sS_c _ (fun i hi => ?_)
    have w := cy_hb hC (t := 6 * (i : Int)) (by omega) (by omega)
    exact c_sum9 w.1 w.2 (by omega) (by omega)
  have e3 := e3.trans (e4.trans (sS_9 (cF R r n b) n.toNat))
  have k : ∀ d : Nat, sS (cF R r n b d) n.toNat = ce (cy_a R r n (b - (d : Int))) (d : Int) := fun d => cy_one hn
  rw [k 1, k 2, k 3, k 4, k 5, k 6, k 7, k 8, k 9] at e3
  have e5 : cg (cy_a R r n b) 1 = (if cy_h R r (6 * (b % n)) = 0 then 0 else 1) := by
    have w := cy_ab (s := b) hn hC
    unfold cg
    unfold cy_a at w ⊢
    split
    · rw [if_neg (by omega)]
    · rw [if_pos (by omega)]
  rw [e5]
  exact ((Int.add_zero _).symm.trans e3).symm
theorem cy_E {jn : Nat} {R : Nat → Int32} {r n : Int} (hn : 1 ≤ n) (hC : CellsX jn R (r + 1) (r + 1 + 6 * n)) (hP : cy_P R r n) (hG : cy_G R r n) (m : Nat) : bE (fun d => cy_a R r n ((m : Int) - d)) = bE (fun d => cy_a R r n (0 - d)) ∧ bF (fun d => cy_a R r n ((m : Int) - d)) = bF (fun d => cy_a R r n (0 - d)) + sS (fun i => cy_a R r n (i : Int)) m - (m : Int) * bE (fun d => cy_a R r n (0 - d)) := by
  induction m with
  | zero =>
    refine ⟨rfl, ?_⟩
    show bF (fun d => cy_a R r n (0 - d)) = bF (fun d => cy_a R r n (0 - d)) + 0 - 0 * _
    rw [Int.zero_mul]; omega
  | succ m ih =>
    have st := b_step (u := fun d => cy_a R r n ((m : Int) - d)) (v := fun d => cy_a R r n (((m + 1 : Nat) : Int) - d)) (x := cy_a R r n (m : Int))
      (by show cy_a R r n _ = cy_a R r n _; congr 1; omega) (by show cy_a R r n _ = cy_a R r n _; congr 1; omega) (by show cy_a R r n _ = cy_a R r n _; congr 1; omega) (by show cy_a R r n _ = cy_a R r n _; congr 1; omega) (by show cy_a R r n _ = cy_a R r n _; congr 1; omega) (by show cy_a R r n _ = cy_a R r n _; congr 1; omega) (by show cy_a R r n _ = cy_a R r n _; congr 1; omega) (by show cy_a R r n _ = cy_a R r n _; congr 1; omega) (by show cy_a R r n _ = cy_a R r n _; congr 1; omega)
      (cy_ab hn hC).1 (cy_ab hn hC).2 (cy_Z hn hC hP hG)
    refine ⟨st.1.trans ih.1, ?_⟩
    rw [st.2, ih.1, ih.2]
    show _ = _ + (sS (fun i => cy_a R r n (i : Int)) m + cy_a R r n (m : Int)) - ((m + 1 : Nat) : Int) * _
    rw [show ((m + 1 : Nat) : Int) = (m : Int) + 1 by omega, Int.add_mul, Int.one_mul]
    omega
/-- the number of balls -/
theorem cy_balls {jn : Nat} {R : Nat → Int32} {r n : Int} (hn : 1 ≤ n) (hC : CellsX jn R (r + 1) (r + 1 + 6 * n)) (hP : cy_P R r n) (hG : cy_G R r n) : cy_S R r (6 * n).toNat / n = bE (fun d => cy_a R r n (0 - d)) := by
  have h := (cy_E hn hC hP hG n.toNat).2
  rw [Int.toNat_of_nonneg (show 0 ≤ n by omega)] at h
  have e1 : bF (fun d => cy_a R r n (n - d)) = bF (fun d => cy_a R r n (0 - d)) := by
    congr 1
    funext d
    unfold cy_a
    congr 2
    have := Int.add_mul_emod_self_left (0 - d) n 1
    rw [← this]
    congr 1
    omega
  have e2 : sS (fun i => cy_a R r n (i : Int)) n.toNat = cy_S R r (6 * n).toNat := by
    rw [show (6 * n).toNat = 6 * n.toNat by omega, cy_S6 hP n.toNat (by omega)]
    refine sS_c _ (fun i hi => ?_)
    unfold cy_a
    rw [Int.emod_eq_of_lt (by omega) (by omega)]
  rw [e1, e2] at h
  have e3 : cy_S R r (6 * n).toNat = n * bE (fun d => cy_a R r n (0 - d)) := by omega
  rw [e3, Int.mul_ediv_cancel_left _ (by omega)]
/-- bits of the state, beat by beat -/
def zs (A : Int → Int) (k : Nat) : Nat → Int
  | 0 => 0
  | m + 1 => zs A k m + ce (A ((m : Int) + 1)) ((k : Int) + (m : Int) + 1)
def zt (A : Int → Int) : Nat → Int
  | 0 => 0
  | k + 1 => zt A k + zs A k (9 - k)
theorem zs_nn (A : Int → Int) (k m : Nat) : 0 ≤ zs A k m := by
  induction m with
  | zero => exact Int.le_refl 0
  | succ m ih =>
    have := ce_nn (A ((m : Int) + 1)) ((k : Int) + (m : Int) + 1)
    show 0 ≤ zs A k m + ce (A ((m : Int) + 1)) ((k : Int) + (m : Int) + 1)
    omega
theorem zs_mono (A : Int → Int) (k m j : Nat) : zs A k m ≤ zs A k (m + j) := by
  induction j with
  | zero => exact Int.le_refl _
  | succ j ih =>
    have := ce_nn (A (((m + j : Nat) : Int) + 1)) ((k : Int) + ((m + j : Nat) : Int) + 1)
    show zs A k m ≤ zs A k (m + j) + ce (A (((m + j : Nat) : Int) + 1)) ((k : Int) + ((m + j : Nat) : Int) + 1)
    omega
theorem zt_9 (A : Int → Int) (h : ∀ d : Int, A d ≤ 9) : zt A 9 = bE A := by
  have e : ∀ d : Int, cg (A d) 9 = ce (A d) 9 := fun d => cg_9 (h d)
  have s8 : ∀ d : Int, cg (A d) 8 = ce (A d) 8 + ce (A d) 9 := fun d => by have : cg (A d) 9 = cg (A d) 8 - ce (A d) 8 := cg_s (A d) 8; have := e d; omega
  have s7 : ∀ d : Int, cg (A d) 7 = ce (A d) 7 + ce (A d) 8 + ce (A d) 9 := fun d => by have : cg (A d) 8 = cg (A d) 7 - ce (A d) 7 := cg_s (A d) 7; have := s8 d; omega
  have s6 : ∀ d : Int, cg (A d) 6 = ce (A d) 6 + ce (A d) 7 + ce (A d) 8 + ce (A d) 9 := fun d => by have : cg (A d) 7 = cg (A d) 6 - ce (A d) 6 := cg_s (A d) 6; have := s7 d; omega
  have s5 : ∀ d : Int, cg (A d) 5 = ce (A d) 5 + ce (A d) 6 + ce (A d) 7 + ce (A d) 8 + ce (A d) 9 := fun d => by have : cg (A d) 6 = cg (A d) 5 - ce (A d) 5 := cg_s (A d) 5; have := s6 d; omega
  have s4 : ∀ d : Int, cg (A d) 4 = ce (A d) 4 + ce (A d) 5 + ce (A d) 6 + ce (A d) 7 + ce (A d) 8 + ce (A d) 9 := fun d => by have : cg (A d) 5 = cg (A d) 4 - ce (A d) 4 := cg_s (A d) 4; have := s5 d; omega
  have s3 : ∀ d : Int, cg (A d) 3 = ce (A d) 3 + ce (A d) 4 + ce (A d) 5 + ce (A d) 6 + ce (A d) 7 + ce (A d) 8 + ce (A d) 9 := fun d => by have : cg (A d) 4 = cg (A d) 3 - ce (A d) 3 := cg_s (A d) 3; have := s4 d; omega
  have s2 : ∀ d : Int, cg (A d) 2 = ce (A d) 2 + ce (A d) 3 + ce (A d) 4 + ce (A d) 5 + ce (A d) 6 + ce (A d) 7 + ce (A d) 8 + ce (A d) 9 := fun d => by have : cg (A d) 3 = cg (A d) 2 - ce (A d) 2 := cg_s (A d) 2; have := s3 d; omega
  have s1 : ∀ d : Int, cg (A d) 1 = ce (A d) 1 + ce (A d) 2 + ce (A d) 3 + ce (A d) 4 + ce (A d) 5 + ce (A d) 6 + ce (A d) 7 + ce (A d) 8 + ce (A d) 9 := fun d => by have : cg (A d) 2 = cg (A d) 1 - ce (A d) 1 := cg_s (A d) 1; have := s2 d; omega
  unfold bE
  rw [s1, s2, s3, s4, s5, s6, s7, s8, e]
  have z0 : zs A 0 9 = 0 + ce (A 1) 1 + ce (A 2) 2 + ce (A 3) 3 + ce (A 4) 4 + ce (A 5) 5 + ce (A 6) 6 + ce (A 7) 7 + ce (A 8) 8 + ce (A 9) 9 := rfl
  have z1 : zs A 1 8 = 0 + ce (A 1) 2 + ce (A 2) 3 + ce (A 3) 4 + ce (A 4) 5 + ce (A 5) 6 + ce (A 6) 7 + ce (A 7) 8 + ce (A 8) 9 := rfl
  have z2 : zs A 2 7 = 0 + ce (A 1) 3 + ce (A 2) 4 + ce (A 3) 5 + ce (A 4) 6 + ce (A 5) 7 + ce (A 6) 8 + ce (A 7) 9 := rfl
  have z3 : zs A 3 6 = 0 + ce (A 1) 4 + ce (A 2) 5 + ce (A 3) 6 + ce (A 4) 7 + ce (A 5) 8 + ce (A 6) 9 := rfl
  have z4 : zs A 4 5 = 0 + ce (A 1) 5 + ce (A 2) 6 + ce (A 3) 7 + ce (A 4) 8 + ce (A 5) 9 := rfl
  have z5 : zs A 5 4 = 0 + ce (A 1) 6 + ce (A 2) 7 + ce (A 3) 8 + ce (A 4) 9 := rfl
  have z6 : zs A 6 3 = 0 + ce (A 1) 7 + ce (A 2) 8 + ce (A 3) 9 := rfl
  have z7 : zs A 7 2 = 0 + ce (A 1) 8 + ce (A 2) 9 := rfl
  have z8 : zs A 8 1 = 0 + ce (A 1) 9 := rfl
  have zz : zt A 9 = 0 + zs A 0 9 + zs A 1 8 + zs A 2 7 + zs A 3 6 + zs A 4 5 + zs A 5 4 + zs A 6 3 + zs A 7 2 + zs A 8 1 := rfl
  rw [zz, z0, z1, z2, z3, z4, z5, z6, z7, z8]
  omega
theorem zs_le {u A : Int → Int} (h : bZ u ≤ 1) (k : Nat) (hk : k < 9) (hu : ∀ d : Int, A d = u ((k : Int) + d)) : zs A k (9 - k) ≤ 1 := by
  unfold bZ at h
  have p : ∀ d : Int, 0 ≤ ce (u d) d := fun d => ce_nn (u d) d
  have p1 := p 1
  have p2 := p 2
  have p3 := p 3
  have p4 := p 4
  have p5 := p 5
  have p6 := p 6
  have p7 := p 7
  have p8 := p 8
  have p9 := p 9
  rcases (show k = 0 ∨ k = 1 ∨ k = 2 ∨ k = 3 ∨ k = 4 ∨ k = 5 ∨ k = 6 ∨ k = 7 ∨ k = 8 by omega) with q | q | q | q | q | q | q | q | q <;> rw [q] at hu ⊢
  · show 0 + ce (A 1) 1 + ce (A 2) 2 + ce (A 3) 3 + ce (A 4) 4 + ce (A 5) 5 + ce (A 6) 6 + ce (A 7) 7 + ce (A 8) 8 + ce (A 9) 9 ≤ 1
    rw [show A 1 = u 1 from hu 1, show A 2 = u 2 from hu 2, show A 3 = u 3 from hu 3, show A 4 = u 4 from hu 4, show A 5 = u 5 from hu 5, show A 6 = u 6 from hu 6, show A 7 = u 7 from hu 7, show A 8 = u 8 from hu 8, show A 9 = u 9 from hu 9]; omega
  · show 0 + ce (A 1) 2 + ce (A 2) 3 + ce (A 3) 4 + ce (A 4) 5 + ce (A 5) 6 + ce (A 6) 7 + ce (A 7) 8 + ce (A 8) 9 ≤ 1
    rw [show A 1 = u 2 from hu 1, show A 2 = u 3 from hu 2, show A 3 = u 4 from hu 3, show A 4 = u 5 from hu 4, show A 5 = u 6 from hu 5, show A 6 = u 7 from hu 6, show A 7 = u 8 from hu 7, show A 8 = u 9 from hu 8]; omega
  · show 0 + ce (A 1) 3 + ce (A 2) 4 + ce (A 3) 5 + ce (A 4) 6 + ce (A 5) 7 + ce (A 6) 8 + ce (A 7) 9 ≤ 1
    rw [show A 1 = u 3 from hu 1, show A 2 = u 4 from hu 2, show A 3 = u 5 from hu 3, show A 4 = u 6 from hu 4, show A 5 = u 7 from hu 5, show A 6 = u 8 from hu 6, show A 7 = u 9 from hu 7]; omega
  · show 0 + ce (A 1) 4 + ce (A 2) 5 + ce (A 3) 6 + ce (A 4) 7 + ce (A 5) 8 + ce (A 6) 9 ≤ 1
    rw [show A 1 = u 4 from hu 1, show A 2 = u 5 from hu 2, show A 3 = u 6 from hu 3, show A 4 = u 7 from hu 4, show A 5 = u 8 from hu 5, show A 6 = u 9 from hu 6]; omega
  · show 0 + ce (A 1) 5 + ce (A 2) 6 + ce (A 3) 7 + ce (A 4) 8 + ce (A 5) 9 ≤ 1
    rw [show A 1 = u 5 from hu 1, show A 2 = u 6 from hu 2, show A 3 = u 7 from hu 3, show A 4 = u 8 from hu 4, show A 5 = u 9 from hu 5]; omega
  · show 0 + ce (A 1) 6 + ce (A 2) 7 + ce (A 3) 8 + ce (A 4) 9 ≤ 1
    rw [show A 1 = u 6 from hu 1, show A 2 = u 7 from hu 2, show A 3 = u 8 from hu 3, show A 4 = u 9 from hu 4]; omega
  · show 0 + ce (A 1) 7 + ce (A 2) 8 + ce (A 3) 9 ≤ 1
    rw [show A 1 = u 7 from hu 1, show A 2 = u 8 from hu 2, show A 3 = u 9 from hu 3]; omega
  · show 0 + ce (A 1) 8 + ce (A 2) 9 ≤ 1
    rw [show A 1 = u 8 from hu 1, show A 2 = u 9 from hu 2]; omega
  · show 0 + ce (A 1) 9 ≤ 1
    rw [show A 1 = u 9 from hu 1]; omega
theorem cy_zs {jn : Nat} {R : Nat → Int32} {r n : Int} (hn : 1 ≤ n) (hC : CellsX jn R (r + 1) (r + 1 + 6 * n)) (hP : cy_P R r n) (hG : cy_G R r n) (k : Nat) (hk : k < 9) : zs (fun d => cy_a R r n (0 - d)) k (9 - k) ≤ 1 := by
  have h := cy_Z (b := (k : Int)) hn hC hP hG
  refine zs_le (u := fun d => cy_a R r n ((k : Int) - d)) ?_ k hk (fun d => ?_)
  · rw [h]
    unfold cg
    split
    · exact Int.le_refl _
    · decide
  · show cy_a R r n (0 - d) = cy_a R r n ((k : Int) - ((k : Int) + d))
    congr 1
    omega
/-- a way from the lowest state to any of as many bits -/
def topB : Nat → Nat → Nat
  | 0, _ => 0
  | m + 1, s => if s / 2 ^ m % 2 = 1 then m else topB m s
def bkP : Nat → Nat → List Nat → List Nat
  | 0, _, acc => acc
  | m + 1, s, acc => bkP m ((s - 2 ^ topB 9 s) * 2 + 1) ((topB 9 s + 1) :: acc)
set_option maxRecDepth 100000 in
theorem up_tab : ∀ s, s < 512 → jrun (2 ^ bc s - 1) (bkP (bc s) s []) = some s := by decide +kernel
def dnP : Nat → Nat → List Nat
  | 0, _ => []
  | m + 1, s => if s + 1 = 2 ^ bc s then [] else if s % 2 = 0 then 0 :: dnP m (s / 2) else
    (match (List.range 10).find? (fun h => (stp s h).isSome) with
      | none => []
      | some h => h :: (match stp s h with
        | none => []
        | some t => dnP m t))
set_option maxRecDepth 100000 in
theorem dn_tab : ∀ s, s < 512 → jrun s (dnP 12 s) = some (2 ^ bc s - 1) := by decide +kernel
theorem jrun_app {s t : Nat} (as bs : List Nat) (h : jrun s as = some t) : jrun s (as ++ bs) = jrun t bs := by
  induction as generalizing s with
  | nil =>
    have h : some s = some t := h
    cases h
    rfl
  | cons a as ih =>
    obtain ⟨u, h1, h2⟩ := jrun_cons h
    show (stp s a).bind (fun x => jrun x (as ++ bs)) = jrun t bs
    rw [h1]
    exact ih h2
theorem same_way {s t : Nat} (hs : s < 512) (ht : t < 512) (h : bc s = bc t) : ∃ hs, jrun s hs = some t := by
  refine ⟨dnP 12 s ++ bkP (bc t) t [], ?_⟩
  rw [jrun_app _ _ (dn_tab s hs), h]
  exact up_tab t ht
theorem FF_ge {to : Nat} {far : Nat → Int32} (F : FF to far) {s : Nat} (hs : s < 512) (ht : to < 512) (h : bc s = bc to) : ∃ m, m < 512 ∧ far s = nI m := by
  obtain ⟨as, has⟩ := same_way hs ht h
  rcases F s hs with ⟨_, z⟩ | ⟨m, hm, e, _⟩
  · exact absurd ⟨as, has, rfl⟩ (z as.length)
  · exact ⟨m, hm, e⟩
