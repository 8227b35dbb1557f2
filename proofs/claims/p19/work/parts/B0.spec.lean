/-- the tape as both sides see it: -1 behind its end -/
def sE (f : Nat → Int32) (n k : Int) : Int := if 0 ≤ k ∧ k < n then (f k.toNat).toInt else -1
theorem sE_in {f : Nat → Int32} {n k : Int} (h0 : 0 ≤ k) (h1 : k < n) : sE f n k = (f k.toNat).toInt := if_pos ⟨h0, h1⟩
theorem sE_out {f : Nat → Int32} {n k : Int} (h : n ≤ k) : sE f n k = -1 := if_neg (fun q => by omega)
def isLt (c : Int) : Prop := (97 ≤ c ∧ c ≤ 122) ∨ (65 ≤ c ∧ c ≤ 90)
def isSg (c : Int) : Prop := c = 61 ∨ c = 59 ∨ c = 42 ∨ c = 40 ∨ c = 41 ∨ c = 91 ∨ c = 93 ∨ c = 60 ∨ c = 62 ∨ c = 124 ∨ c = 63
/-- what a word from q up to e is: k -/
def WKd (B : Int → Int) (q e k : Int) : Prop :=
  (e - q = 1 ∧ ((65 ≤ B q ∧ B q ≤ 72 ∧ k = 2) ∨ (B q = 112 ∧ k = 4) ∨ (¬ (65 ≤ B q ∧ B q ≤ 72) ∧ B q ≠ 112 ∧ k = 3))) ∨
  (e - q = 3 ∧ B q = 114 ∧ B (q + 1) = 111 ∧ B (q + 2) = 119 ∧ k = 5) ∨
  (e - q = 4 ∧ B q = 115 ∧ B (q + 1) = 101 ∧ B (q + 2) = 101 ∧ B (q + 3) = 110 ∧ k = 6) ∨
  (e - q = 4 ∧ B q = 98 ∧ B (q + 1) = 97 ∧ B (q + 2) = 99 ∧ B (q + 3) = 107 ∧ k = 7) ∨
  (e - q = 4 ∧ B q = 111 ∧ B (q + 1) = 118 ∧ B (q + 2) = 101 ∧ B (q + 3) = 114 ∧ k = 8) ∨
  (e - q = 4 ∧ B q = 100 ∧ B (q + 1) = 117 ∧ B (q + 2) = 97 ∧ B (q + 3) = 108 ∧ k = 9) ∨
  (e - q = 4 ∧ B q = 116 ∧ B (q + 1) = 117 ∧ B (q + 2) = 114 ∧ B (q + 3) = 110 ∧ k = 10) ∨
  (e - q ≠ 1 ∧ ¬ (e - q = 3 ∧ B q = 114 ∧ B (q + 1) = 111 ∧ B (q + 2) = 119) ∧ ¬ (e - q = 4 ∧ B q = 115 ∧ B (q + 1) = 101 ∧ B (q + 2) = 101 ∧ B (q + 3) = 110) ∧ ¬ (e - q = 4 ∧ B q = 98 ∧ B (q + 1) = 97 ∧ B (q + 2) = 99 ∧ B (q + 3) = 107) ∧ ¬ (e - q = 4 ∧ B q = 111 ∧ B (q + 1) = 118 ∧ B (q + 2) = 101 ∧ B (q + 3) = 114) ∧ ¬ (e - q = 4 ∧ B q = 100 ∧ B (q + 1) = 117 ∧ B (q + 2) = 97 ∧ B (q + 3) = 108) ∧ ¬ (e - q = 4 ∧ B q = 116 ∧ B (q + 1) = 117 ∧ B (q + 2) = 114 ∧ B (q + 3) = 110) ∧ k = 3)
theorem WKd_u {B : Int → Int} {q e k k' : Int} (h : WKd B q e k) (h' : WKd B q e k') : k = k' := by
  unfold WKd at h h'
  rcases h with ⟨a1, a2⟩ | ⟨a1, a2, a3, a4, a9⟩ | ⟨a1, a2, a3, a4, a5, a9⟩ | ⟨a1, a2, a3, a4, a5, a9⟩ | ⟨a1, a2, a3, a4, a5, a9⟩ | ⟨a1, a2, a3, a4, a5, a9⟩ | ⟨a1, a2, a3, a4, a5, a9⟩ | ⟨a1, a2, a3, a4, a5, a6, a7, a9⟩ <;>
  rcases h' with ⟨b1, b2⟩ | ⟨b1, b2, b3, b4, b9⟩ | ⟨b1, b2, b3, b4, b5, b9⟩ | ⟨b1, b2, b3, b4, b5, b9⟩ | ⟨b1, b2, b3, b4, b5, b9⟩ | ⟨b1, b2, b3, b4, b5, b9⟩ | ⟨b1, b2, b3, b4, b5, b9⟩ | ⟨b1, b2, b3, b4, b5, b6, b7, b9⟩
  all_goals first
    | (rw [a9, b9]; done)
    | exact absurd a1 b1
    | exact absurd b1 a1
    | exact (b2 ⟨a1, a2, a3, a4⟩).elim
    | exact (b3 ⟨a1, a2, a3, a4, a5⟩).elim
    | exact (b4 ⟨a1, a2, a3, a4, a5⟩).elim
    | exact (b5 ⟨a1, a2, a3, a4, a5⟩).elim
    | exact (b6 ⟨a1, a2, a3, a4, a5⟩).elim
    | exact (b7 ⟨a1, a2, a3, a4, a5⟩).elim
    | exact (a2 ⟨b1, b2, b3, b4⟩).elim
    | exact (a3 ⟨b1, b2, b3, b4, b5⟩).elim
    | exact (a4 ⟨b1, b2, b3, b4, b5⟩).elim
    | exact (a5 ⟨b1, b2, b3, b4, b5⟩).elim
    | exact (a6 ⟨b1, b2, b3, b4, b5⟩).elim
    | exact (a7 ⟨b1, b2, b3, b4, b5⟩).elim
    | omega
def IsW (B : Int → Int) (q e n a b d g : Int) : Prop := e - q = n ∧ B q = a ∧ B (q + 1) = b ∧ B (q + 2) = d ∧ (n < 4 ∨ B (q + 3) = g)
theorem isw_1 {r : Int} {P : Prop} (h : (r = 1 ∧ P) ∨ (r = 0 ∧ ¬ P)) (c : ¬ r = 0) : P := by
  rcases h with h | h
  · exact h.2
  · exact absurd h.1 c
theorem isw_0 {r : Int} {P : Prop} (h : (r = 1 ∧ P) ∨ (r = 0 ∧ ¬ P)) (c : r = 0) : ¬ P := by
  rcases h with h | h
  · have := h.1; omega
  · exact h.2
theorem WKd_5 {B : Int → Int} {q e : Int} (h : IsW B q e (3 : Int32).toInt (114 : Int32).toInt (111 : Int32).toInt (119 : Int32).toInt (0 : Int32).toInt) : WKd B q e (5 : Int32).toInt := Or.inr (Or.inl ⟨h.1, h.2.1, h.2.2.1, h.2.2.2.1, rfl⟩)
theorem WKd_6 {B : Int → Int} {q e : Int} (h : IsW B q e (4 : Int32).toInt (115 : Int32).toInt (101 : Int32).toInt (101 : Int32).toInt (110 : Int32).toInt) : WKd B q e (6 : Int32).toInt := Or.inr (Or.inr (Or.inl ⟨h.1, h.2.1, h.2.2.1, h.2.2.2.1, h.2.2.2.2.resolve_left (by decide), rfl⟩))
theorem WKd_7 {B : Int → Int} {q e : Int} (h : IsW B q e (4 : Int32).toInt (98 : Int32).toInt (97 : Int32).toInt (99 : Int32).toInt (107 : Int32).toInt) : WKd B q e (7 : Int32).toInt := Or.inr (Or.inr (Or.inr (Or.inl ⟨h.1, h.2.1, h.2.2.1, h.2.2.2.1, h.2.2.2.2.resolve_left (by decide), rfl⟩)))
theorem WKd_8 {B : Int → Int} {q e : Int} (h : IsW B q e (4 : Int32).toInt (111 : Int32).toInt (118 : Int32).toInt (101 : Int32).toInt (114 : Int32).toInt) : WKd B q e (8 : Int32).toInt := Or.inr (Or.inr (Or.inr (Or.inr (Or.inl ⟨h.1, h.2.1, h.2.2.1, h.2.2.2.1, h.2.2.2.2.resolve_left (by decide), rfl⟩))))
theorem WKd_9 {B : Int → Int} {q e : Int} (h : IsW B q e (4 : Int32).toInt (100 : Int32).toInt (117 : Int32).toInt (97 : Int32).toInt (108 : Int32).toInt) : WKd B q e (9 : Int32).toInt := Or.inr (Or.inr (Or.inr (Or.inr (Or.inr (Or.inl ⟨h.1, h.2.1, h.2.2.1, h.2.2.2.1, h.2.2.2.2.resolve_left (by decide), rfl⟩)))))
theorem WKd_10 {B : Int → Int} {q e : Int} (h : IsW B q e (4 : Int32).toInt (116 : Int32).toInt (117 : Int32).toInt (114 : Int32).toInt (110 : Int32).toInt) : WKd B q e (10 : Int32).toInt := Or.inr (Or.inr (Or.inr (Or.inr (Or.inr (Or.inr (Or.inl ⟨h.1, h.2.1, h.2.2.1, h.2.2.2.1, h.2.2.2.2.resolve_left (by decide), rfl⟩))))))
theorem WKd_3 {B : Int → Int} {q e : Int} (h1 : e - q ≠ 1) (h5 : ¬ IsW B q e (3 : Int32).toInt (114 : Int32).toInt (111 : Int32).toInt (119 : Int32).toInt (0 : Int32).toInt) (h6 : ¬ IsW B q e (4 : Int32).toInt (115 : Int32).toInt (101 : Int32).toInt (101 : Int32).toInt (110 : Int32).toInt) (h7 : ¬ IsW B q e (4 : Int32).toInt (98 : Int32).toInt (97 : Int32).toInt (99 : Int32).toInt (107 : Int32).toInt) (h8 : ¬ IsW B q e (4 : Int32).toInt (111 : Int32).toInt (118 : Int32).toInt (101 : Int32).toInt (114 : Int32).toInt) (h9 : ¬ IsW B q e (4 : Int32).toInt (100 : Int32).toInt (117 : Int32).toInt (97 : Int32).toInt (108 : Int32).toInt) (h10 : ¬ IsW B q e (4 : Int32).toInt (116 : Int32).toInt (117 : Int32).toInt (114 : Int32).toInt (110 : Int32).toInt) : WKd B q e (3 : Int32).toInt := Or.inr (Or.inr (Or.inr (Or.inr (Or.inr (Or.inr (Or.inr (⟨h1, fun x => h5 ⟨x.1, x.2.1, x.2.2.1, x.2.2.2, Or.inl (by decide)⟩, fun x => h6 ⟨x.1, x.2.1, x.2.2.1, x.2.2.2.1, Or.inr x.2.2.2.2⟩, fun x => h7 ⟨x.1, x.2.1, x.2.2.1, x.2.2.2.1, Or.inr x.2.2.2.2⟩, fun x => h8 ⟨x.1, x.2.1, x.2.2.1, x.2.2.2.1, Or.inr x.2.2.2.2⟩, fun x => h9 ⟨x.1, x.2.1, x.2.2.1, x.2.2.2.1, Or.inr x.2.2.2.2⟩, fun x => h10 ⟨x.1, x.2.1, x.2.2.1, x.2.2.2.1, Or.inr x.2.2.2.2⟩, rfl⟩)))))))
theorem WKd_b {B : Int → Int} {q e k : Int} (h : WKd B q e k) : 2 ≤ k ∧ k ≤ 10 := by
  unfold WKd at h
  omega
/-- the token from p on: its kind k, worth v, place q, and where it ends, e -/
def TkR (B : Int → Int) (p k v q e : Int) : Prop := p ≤ q ∧ (∀ i : Int, p ≤ i → i < q → B i = 32 ∨ B i = 10) ∧ ¬ (B q = 32 ∨ B q = 10) ∧
  ((B q < 0 ∧ k = 0 ∧ e = q) ∨ (48 ≤ B q ∧ B q ≤ 57 ∧ k = 1 ∧ v = B q - 48 ∧ e = q + 1) ∨
   (isLt (B q) ∧ q < e ∧ (∀ i : Int, q ≤ i → i < e → isLt (B i)) ∧ ¬ isLt (B e) ∧ WKd B q e k ∧ v = B q - 65) ∨
   (0 ≤ B q ∧ ¬ (48 ≤ B q ∧ B q ≤ 57) ∧ ¬ isLt (B q) ∧ e = q + 1 ∧ ((isSg (B q) ∧ k = B q) ∨ (¬ isSg (B q) ∧ k = 3))))
theorem TkR_u {B : Int → Int} {p k v q e k' v' q' e' : Int} (h : TkR B p k v q e) (h' : TkR B p k' v' q' e') : q = q' ∧ e = e' ∧ k = k' ∧ (k = 1 ∨ k = 2 → v = v') := by
  obtain ⟨a1, a2, a3, a4⟩ := h
  obtain ⟨b1, b2, b3, b4⟩ := h'
  have hq : q = q' := by
    rcases Int.lt_trichotomy q q' with w | w | w
    · exact absurd (b2 q a1 w) a3
    · exact w
    · exact absurd (a2 q' b1 w) b3
  subst hq
  refine ⟨rfl, ?_⟩
  unfold isLt isSg at a4 b4
  rcases a4 with a4 | a4 | a4 | a4
  · rcases b4 with b4 | b4 | b4 | b4 <;> omega
  · rcases b4 with b4 | b4 | b4 | b4 <;> omega
  · rcases b4 with b4 | b4 | b4 | b4
    · omega
    · omega
    · obtain ⟨c1, c2, c3, c4, c5, c6⟩ := a4
      obtain ⟨d1, d2, d3, d4, d5, d6⟩ := b4
      have he : e = e' := by
        rcases Int.lt_trichotomy e e' with w | w | w
        · exact absurd (d3 e (by omega) w) c4
        · exact w
        · exact absurd (c3 e' (by omega) w) d4
      subst he
      exact ⟨rfl, WKd_u c5 d5, fun _ => by omega⟩
    · omega
  · rcases b4 with b4 | b4 | b4 | b4 <;> omega
theorem TkR_k {B : Int → Int} {p k v q e : Int} (h : TkR B p k v q e) : 0 ≤ k ∧ k ≤ 124 ∧ (k = 1 → 0 ≤ v ∧ v ≤ 9) ∧ (k = 2 → 0 ≤ v ∧ v ≤ 7) := by
  obtain ⟨a1, a2, a3, a4⟩ := h
  unfold isLt isSg at a4
  rcases a4 with a4 | a4 | a4 | a4
  · omega
  · omega
  · obtain ⟨c1, c2, c3, c4, c5, c6⟩ := a4
    have := WKd_b c5
    refine ⟨by omega, by omega, fun q9 => by omega, fun q9 => ?_⟩
    unfold WKd at c5
    omega
  · omega
/-- the tokens of a tape, one behind the other -/
def SM (B : Int → Int) (P ks vs : Nat → Int) : Prop := P 0 = 0 ∧ ∀ i : Nat, ∃ q : Int, TkR B (P i) (ks i) (vs i) q (P (i + 1))
/-- what the reference holds of the token i -/
def CU (P ks vs : Nat → Int) (i : Nat) (a5 a7 a8 : Int32) : Prop := a5.toInt = P (i + 1) ∧ a7.toInt = ks i ∧ (ks i = 1 ∨ ks i = 2 → a8.toInt = vs i)
theorem CU_n {B : Int → Int} {P ks vs : Nat → Int} {i : Nat} {a5 : Int} {b5 b7 b8 : Int32} {v q : Int} (h : SM B P ks vs) (h5 : a5 = P i) (ht : TkR B a5 b7.toInt v q b5.toInt) (hv : b7.toInt = 1 ∨ b7.toInt = 2 → b8.toInt = v) : CU P ks vs i b5 b7 b8 := by
  obtain ⟨q9, h9⟩ := h.2 i
  rw [h5] at ht
  obtain ⟨u1, u2, u3, u4⟩ := TkR_u ht h9
  exact ⟨u2, u3, fun w => by rw [hv (by omega)]; exact u4 (by omega)⟩
/-- rows as heights: place 2 * beat + hand -/
def fupd (f : Int → Int) (k v : Int) : Int → Int := fun j => if j = k then v else f j
theorem fu_s {f : Int → Int} {k v : Int} : fupd f k v k = v := if_pos rfl
theorem fu_n {f : Int → Int} {k v j : Int} (h : j ≠ k) : fupd f k v j = f j := if_neg h
/-- one throw more on a beat, in its order; none if two are there -/
def insW (s : Int → Int) (b h : Int) : Option (Int → Int) := if h = 0 then some s else if s (2 * b + 1) ≠ 0 then none else if s (2 * b) < h then some (fupd (fupd s (2 * b + 1) (s (2 * b))) (2 * b) h) else some (fupd s (2 * b + 1) h)
/-- thrown back in time, place by place -/
def bkW (w : Int → Int) (o n : Int) : Nat → Option (Int → Int)
  | 0 => some (fun _ => 0)
  | k + 1 => (bkW w o n k).bind (fun s => insW s ((-((k : Int) / 2 + w (2 * o + (k : Int)))) % n) (w (2 * o + (k : Int))))
def putW (w s : Int → Int) (o n : Int) : Int → Int := fun j => if 2 * o ≤ j ∧ j < 2 * o + 2 * n then s (j - 2 * o) else w j
def plW (w : Int → Int) (o n : Int) : Prop := ∀ b : Int, 0 ≤ b → b < n → w (2 * (o + b) + 1) = 0
/-- what a bracket does to its beats: 0 nothing, 7 back, 8 over, 9 dual, 10 turn -/
def ChW (a d : Int) (w : Int → Int) (o n : Int) (w' : Int → Int) : Prop :=
  (a = 0 ∧ w' = w) ∨ (a = 8 ∧ w' = w) ∨
  (a = 7 ∧ ∃ s, bkW w o n (2 * n).toNat = some s ∧ w' = putW w s o n) ∨
  (a = 9 ∧ plW w o n ∧ w' = putW w (fun j => if j % 2 = 1 then 0 else 9 - w (2 * (o + (-(j / 2)) % n))) o n) ∨
  (a = 10 ∧ w' = putW w (fun j => w (2 * (o + (j / 2 + d) % n) + j % 2)) o n)
def ChF (a : Int) (w : Int → Int) (o n : Int) : Prop := (a = 7 ∧ bkW w o n (2 * n).toNat = none) ∨ (a = 9 ∧ ¬ plW w o n)
theorem ChW_u {a d : Int} {w : Int → Int} {o n : Int} {u v : Int → Int} (h : ChW a d w o n u) (h' : ChW a d w o n v) : u = v := by
  unfold ChW at h h'
  rcases h with ⟨h1, h2⟩ | ⟨h1, h2⟩ | ⟨h1, s, h2, h3⟩ | ⟨h1, h2, h3⟩ | ⟨h1, h2⟩ <;> rcases h' with ⟨g1, g2⟩ | ⟨g1, g2⟩ | ⟨g1, t, g2, g3⟩ | ⟨g1, g2, g3⟩ | ⟨g1, g2⟩
  all_goals first
    | omega
    | (rw [h2, g2]; done)
    | (rw [h3, g3]; done)
    | (rw [h2] at g2; cases g2; rw [h3, g3])
theorem ChW_F {a d : Int} {w : Int → Int} {o n : Int} {u : Int → Int} (h : ChW a d w o n u) (h' : ChF a w o n) : False := by
  unfold ChW at h
  unfold ChF at h'
  rcases h with ⟨h1, h2⟩ | ⟨h1, h2⟩ | ⟨h1, s, h2, h3⟩ | ⟨h1, h2, h3⟩ | ⟨h1, h2⟩ <;> rcases h' with ⟨g1, g2⟩ | ⟨g1, g2⟩
  all_goals first
    | omega
    | (rw [h2] at g2; cases g2; done)
    | exact g2 h2
/-- a throw: a digit, perhaps p and a juggler's digit (one juggler: 0) -/
def ThOk (ks vs : Nat → Int) (i : Nat) : Prop := ks i = 1 ∧ (ks (i + 1) = 4 → ks (i + 2) = 1 ∧ vs (i + 2) < 1)
def thN (ks : Nat → Int) (i : Nat) : Nat := if ks (i + 1) = 4 then i + 3 else i + 1
/-- a beat for one juggler: its two heights, the greater first, and the token behind it -/
def BtR (ks vs : Nat → Int) (i : Nat) (a b : Int) (j : Nat) : Prop :=
  (ks i ≠ 91 ∧ ThOk ks vs i ∧ a = vs i ∧ b = 0 ∧ j = thN ks i) ∨
  (ks i = 91 ∧ ThOk ks vs (i + 1) ∧ ThOk ks vs (thN ks (i + 1)) ∧ ks (thN ks (thN ks (i + 1))) = 93 ∧ j = thN ks (thN ks (i + 1)) + 1 ∧ ((vs (i + 1) ≥ vs (thN ks (i + 1)) ∧ a = vs (i + 1) ∧ b = vs (thN ks (i + 1))) ∨ (vs (i + 1) < vs (thN ks (i + 1)) ∧ a = vs (thN ks (i + 1)) ∧ b = vs (i + 1))))
def BtF (ks vs : Nat → Int) (i : Nat) : Prop :=
  (ks i ≠ 91 ∧ ¬ ThOk ks vs i) ∨ (ks i = 91 ∧ ¬ (ThOk ks vs (i + 1) ∧ ThOk ks vs (thN ks (i + 1)) ∧ ks (thN ks (thN ks (i + 1))) = 93))
theorem Bt_or {ks vs : Nat → Int} {i : Nat} {a b : Int} {j : Nat} (h : BtR ks vs i a b j) (h' : BtF ks vs i) : False := by
  unfold BtR at h
  unfold BtF at h'
  rcases h with h | h <;> rcases h' with h' | h'
  · exact h'.2 h.2.1
  · exact h.1 h'.1
  · exact h'.1 h.1
  · exact h'.2 ⟨h.2.1, h.2.2.1, h.2.2.2.1⟩
theorem Bt_u {ks vs : Nat → Int} {i : Nat} {a b a' b' : Int} {j j' : Nat} (h : BtR ks vs i a b j) (h' : BtR ks vs i a' b' j') : a = a' ∧ b = b' ∧ j = j' := by
  unfold BtR at h h'
  omega
/-- the reading of a sequence as a machine: token, depth, beats, where the last ONE begins, may * come, is there a ONE; heights, beginnings, brackets, digits -/
abbrev Cf : Type := Nat × Int × Int × Int × Int × Int × (Int → Int) × (Int → Int) × (Int → Int) × (Int → Int)
def Bgn (k : Int) : Prop := k = 1 ∨ k = 2 ∨ k = 91 ∨ k = 60 ∨ k = 40 ∨ (7 ≤ k ∧ k ≤ 10)
/-- one step -/
def Sqp (ks vs : Nat → Int) (E : Int → Int × (Int → Int)) (c c' : Cf) : Prop :=
  match c with
  | (i, dep, top, one, may, isO, w, st, op, dg) =>
    ((may = 1 ∧ ks i = 42) ∧ ks (i + 1) = 1 ∧ vs (i + 1) ≠ 0 ∧ top - st dep + (vs (i + 1) - 1) * (top - one) ≤ 24 ∧
      c' = (i + 2, dep, top + (vs (i + 1) - 1) * (top - one), one, 0, isO, (fun j => if j < 2 * top then w j else w (2 * one + (j - 2 * top) % (2 * (top - one)))), st, op, dg)) ∨
    (¬ (may = 1 ∧ ks i = 42) ∧ (isO = 1 ∧ ks i = 41 ∧ 0 < dep) ∧ top - st (dep - 1) ≤ 24 ∧ ∃ w', ChW (op (dep - 1)) (dg (dep - 1)) w (st dep) (top - st dep) w' ∧
      c' = (i + 1, dep - 1, top, st dep, 1, 1, w', st, op, dg)) ∨
    (¬ (may = 1 ∧ ks i = 42) ∧ ¬ (isO = 1 ∧ ks i = 41 ∧ 0 < dep) ∧ dep < 5 ∧
      ((ks i = 40 ∧ c' = (i + 1, dep + 1, top, one, 0, 0, w, fupd st (dep + 1) top, fupd op dep 0, fupd dg dep 0)) ∨
       ((7 ≤ ks i ∧ ks i ≤ 9) ∧ ks (i + 1) = 40 ∧ c' = (i + 2, dep + 1, top, one, 0, 0, w, fupd st (dep + 1) top, fupd op dep (ks i), fupd dg dep 0)) ∨
       (ks i = 10 ∧ ks (i + 1) = 1 ∧ ks (i + 2) = 40 ∧ c' = (i + 3, dep + 1, top, one, 0, 0, w, fupd st (dep + 1) top, fupd op dep 10, fupd dg dep (vs (i + 1)))))) ∨
    (¬ (may = 1 ∧ ks i = 42) ∧ ks i = 2 ∧ 0 < (E (vs i)).1 ∧ top - st dep + (E (vs i)).1 ≤ 24 ∧
      c' = (i + 1, dep, top + (E (vs i)).1, top, 1, 1, (fun j => if j < 2 * top then w j else (E (vs i)).2 (j - 2 * top)), st, op, dg)) ∨
    (¬ (may = 1 ∧ ks i = 42) ∧ (ks i = 1 ∨ ks i = 91) ∧ ∃ (a b : Int) (j : Nat), BtR ks vs i a b j ∧ top + 1 - st dep ≤ 24 ∧
      c' = (j, dep, top + 1, top, 1, 1, fupd (fupd w (2 * top) a) (2 * top + 1) b, st, op, dg))
/-- the end of a sequence -/
def Dne (ks : Nat → Int) (c : Cf) : Prop :=
  match c with
  | (i, dep, _, _, may, isO, _) => ¬ (may = 1 ∧ ks i = 42) ∧ dep = 0 ∧ isO = 1 ∧ ¬ Bgn (ks i)
theorem Sqp_u {ks vs : Nat → Int} {E : Int → Int × (Int → Int)} {c a b : Cf} (h : Sqp ks vs E c a) (h' : Sqp ks vs E c b) : a = b := by
  obtain ⟨i, dep, top, one, may, isO, w, st, op, dg⟩ := c
  unfold Sqp at h h'
  dsimp only at h h'
  rcases h with ⟨h1, h2, h3, h4, h5⟩ | ⟨h1, h2, h3, w1, h4, h5⟩ | ⟨h1, h2, h3, h4⟩ | ⟨h1, h2, h3, h4, h5⟩ | ⟨h1, h2, a1, b1, j1, h4, h5, h6⟩
  · rcases h' with ⟨g1, g2, g3, g4, g5⟩ | ⟨g1, g2, g3, w2, g4, g5⟩ | ⟨g1, g2, g3, g4⟩ | ⟨g1, g2, g3, g4, g5⟩ | ⟨g1, g2, a2, b2, j2, g4, g5, g6⟩
    · rw [h5, g5]
    · exact absurd h1 g1
    · exact absurd h1 g1
    · exact absurd h1 g1
    · exact absurd h1 g1
  · rcases h' with ⟨g1, g2, g3, g4, g5⟩ | ⟨g1, g2, g3, w2, g4, g5⟩ | ⟨g1, g2, g3, g4⟩ | ⟨g1, g2, g3, g4, g5⟩ | ⟨g1, g2, a2, b2, j2, g4, g5, g6⟩
    · exact absurd g1 h1
    · rw [h5, g5, ChW_u h4 g4]
    · exact absurd h2 g2
    · omega
    · omega
  · rcases h' with ⟨g1, g2, g3, g4, g5⟩ | ⟨g1, g2, g3, w2, g4, g5⟩ | ⟨g1, g2, g3, g4⟩ | ⟨g1, g2, g3, g4, g5⟩ | ⟨g1, g2, a2, b2, j2, g4, g5, g6⟩
    · exact absurd g1 h1
    · exact absurd g2 h2
    · rcases h4 with ⟨k1, k2⟩ | ⟨k1, k2, k3⟩ | ⟨k1, k2, k3, k4⟩ <;> rcases g4 with ⟨l1, l2⟩ | ⟨l1, l2, l3⟩ | ⟨l1, l2, l3, l4⟩
      · rw [k2, l2]
      · omega
      · omega
      · omega
      · rw [k3, l3]
      · omega
      · omega
      · omega
      · rw [k4, l4]
    · omega
    · omega
  · rcases h' with ⟨g1, g2, g3, g4, g5⟩ | ⟨g1, g2, g3, w2, g4, g5⟩ | ⟨g1, g2, g3, g4⟩ | ⟨g1, g2, g3, g4, g5⟩ | ⟨g1, g2, a2, b2, j2, g4, g5, g6⟩
    · exact absurd g1 h1
    · omega
    · omega
    · rw [h5, g5]
    · omega
  · rcases h' with ⟨g1, g2, g3, g4, g5⟩ | ⟨g1, g2, g3, w2, g4, g5⟩ | ⟨g1, g2, g3, g4⟩ | ⟨g1, g2, g3, g4, g5⟩ | ⟨g1, g2, a2, b2, j2, g4, g5, g6⟩
    · exact absurd g1 h1
    · omega
    · omega
    · omega
    · obtain ⟨e1, e2, e3⟩ := Bt_u h4 g4
      rw [h6, g6, e1, e2, e3]
theorem Sqp_d {ks vs : Nat → Int} {E : Int → Int × (Int → Int)} {c a : Cf} (h : Sqp ks vs E c a) (h' : Dne ks c) : False := by
  obtain ⟨i, dep, top, one, may, isO, w, st, op, dg⟩ := c
  unfold Sqp at h
  unfold Dne Bgn at h'
  dsimp only at h h'
  obtain ⟨d1, d2, d3, d4⟩ := h'
  rcases h with ⟨h1, h2, h3, h4, h5⟩ | ⟨h1, h2, h3, w1, h4, h5⟩ | ⟨h1, h2, h3, h4⟩ | ⟨h1, h2, h3, h4, h5⟩ | ⟨h1, h2, a1, b1, j1, h4, h5, h6⟩
  · exact d1 h1
  · omega
  · rcases h4 with ⟨k1, k2⟩ | ⟨k1, k2, k3⟩ | ⟨k1, k2, k3, k4⟩ <;> omega
  · omega
  · omega
/-- so many steps -/
def Gs (ks vs : Nat → Int) (E : Int → Int × (Int → Int)) : Nat → Cf → Cf → Prop
  | 0, c, c' => c = c'
  | m + 1, c, c' => ∃ d, Sqp ks vs E c d ∧ Gs ks vs E m d c'
def Go (ks vs : Nat → Int) (E : Int → Int × (Int → Int)) (c c' : Cf) : Prop := ∃ m, Gs ks vs E m c c'
theorem Go_rf {ks vs : Nat → Int} {E : Int → Int × (Int → Int)} {c : Cf} : Go ks vs E c c := ⟨0, rfl⟩
theorem Go_tr {ks vs : Nat → Int} {E : Int → Int × (Int → Int)} {a b c : Cf} (h : Go ks vs E a b) (h' : Go ks vs E b c) : Go ks vs E a c := by
  obtain ⟨m, hm⟩ := h
  induction m generalizing a with
  | zero =>
    have hm : a = b := hm
    rw [hm]; exact h'
  | succ m ih =>
    obtain ⟨d, d1, d2⟩ := hm
    obtain ⟨k, hk⟩ := ih d2
    exact ⟨k + 1, d, d1, hk⟩
theorem Go_1 {ks vs : Nat → Int} {E : Int → Int × (Int → Int)} {a b : Cf} (h : Sqp ks vs E a b) : Go ks vs E a b := ⟨1, b, h, rfl⟩
/-- it ends well, at c'; it fails -/
def Wel (ks vs : Nat → Int) (E : Int → Int × (Int → Int)) (c c' : Cf) : Prop := Go ks vs E c c' ∧ Dne ks c'
def Fls (ks vs : Nat → Int) (E : Int → Int × (Int → Int)) (c : Cf) : Prop := ∃ c', Go ks vs E c c' ∧ ¬ Dne ks c' ∧ ∀ d, ¬ Sqp ks vs E c' d
theorem Fls_tr {ks vs : Nat → Int} {E : Int → Int × (Int → Int)} {a b : Cf} (h : Go ks vs E a b) (h' : Fls ks vs E b) : Fls ks vs E a := by
  obtain ⟨c', h1, h2, h3⟩ := h'
  exact ⟨c', Go_tr h h1, h2, h3⟩
theorem Gs_end {ks vs : Nat → Int} {E : Int → Int × (Int → Int)} {m k : Nat} {a b c : Cf} (hb : ∀ d, ¬ Sqp ks vs E b d) (hc : ∀ d, ¬ Sqp ks vs E c d) (h : Gs ks vs E m a b) (h' : Gs ks vs E k a c) : b = c := by
  induction m generalizing a k with
  | zero =>
    have h : a = b := h
    subst h
    cases k with
    | zero => exact h'
    | succ k =>
      obtain ⟨d, d1, _⟩ := h'
      exact absurd d1 (hb d)
  | succ m ih =>
    obtain ⟨d, d1, d2⟩ := h
    cases k with
    | zero =>
      have h' : a = c := h'
      subst h'
      exact absurd d1 (hc d)
    | succ k =>
      obtain ⟨e, e1, e2⟩ := h'
      have := Sqp_u d1 e1
      subst this
      exact ih d2 e2
theorem Wel_u {ks vs : Nat → Int} {E : Int → Int × (Int → Int)} {a b c : Cf} (h : Wel ks vs E a b) (h' : Wel ks vs E a c) : b = c := by
  obtain ⟨⟨m, h1⟩, h2⟩ := h
  obtain ⟨⟨k, g1⟩, g2⟩ := h'
  exact Gs_end (fun d hd => Sqp_d hd h2) (fun d hd => Sqp_d hd g2) h1 g1
theorem Wel_F {ks vs : Nat → Int} {E : Int → Int × (Int → Int)} {a b : Cf} (h : Wel ks vs E a b) (h' : Fls ks vs E a) : False := by
  obtain ⟨⟨m, h1⟩, h2⟩ := h
  obtain ⟨c, ⟨k, g1⟩, g2, g3⟩ := h'
  have := Gs_end (fun d hd => Sqp_d hd h2) g3 h1 g1
  subst this
  exact g2 h2
/-- a row of the reference as heights -/
def RS (F : Nat → Int32) (w : Int → Int) (m : Int) : Prop := ∀ c : Int, 0 ≤ c → c < 2 * m → (F (6 * (c / 2) + c % 2).toNat).toInt = 4 * w c
theorem RS_a {F : Nat → Int32} {w : Int → Int} {m b : Int} (h : RS F w m) (h0 : 0 ≤ b) (h1 : b < m) : (F (6 * b).toNat).toInt = 4 * w (2 * b) ∧ (F (6 * b + 1).toNat).toInt = 4 * w (2 * b + 1) := by
  have a1 := h (2 * b) (by omega) (by omega)
  have a2 := h (2 * b + 1) (by omega) (by omega)
  rw [show 6 * (2 * b / 2) + 2 * b % 2 = 6 * b by omega] at a1
  rw [show 6 * ((2 * b + 1) / 2) + (2 * b + 1) % 2 = 6 * b + 1 by omega] at a2
  exact ⟨a1, a2⟩
/-- a beat was written -/
theorem RS_b {F G : Nat → Int32} {w : Int → Int} {m b x y : Int} (h : RS F w m) (h0 : 0 ≤ b) (hu : ∀ i : Int, 0 ≤ i → i ≠ 6 * b → i ≠ 6 * b + 1 → G i.toNat = F i.toNat) (h1 : (G (6 * b).toNat).toInt = 4 * x) (h2 : (G (6 * b + 1).toNat).toInt = 4 * y) : RS G (fupd (fupd w (2 * b + 1) y) (2 * b) x) m := by
  intro c c0 c1
  by_cases e1 : c = 2 * b
  · rw [e1, fu_s, show 6 * (2 * b / 2) + 2 * b % 2 = 6 * b by omega]; exact h1
  · rw [fu_n e1]
    by_cases e2 : c = 2 * b + 1
    · rw [e2, fu_s, show 6 * ((2 * b + 1) / 2) + (2 * b + 1) % 2 = 6 * b + 1 by omega]; exact h2
    · rw [fu_n e2, hu _ (by omega) (by omega) (by omega)]; exact h c c0 c1
theorem fupd_id {w : Int → Int} {k v : Int} (h : w k = v) : fupd w k v = w := by
  funext j
  by_cases e : j = k
  · rw [e, fu_s, h]
  · rw [fu_n e]
theorem fupd_cm {w : Int → Int} {k l v u : Int} (h : k ≠ l) : fupd (fupd w k v) l u = fupd (fupd w l u) k v := by
  funext j
  by_cases e : j = k
  · rw [e, fu_n h, fu_s, fu_s]
  · by_cases e2 : j = l
    · rw [e2, fu_s, fu_n (fun q => h q.symm), fu_s]
    · rw [fu_n e2, fu_n e, fu_n e, fu_n e2]
/-- thrown back in time over the reference's six places a beat -/
def bk6 (w : Int → Int) (o n : Int) : Nat → Option (Int → Int)
  | 0 => some (fun _ => 0)
  | t + 1 => (bk6 w o n t).bind (fun s => if t % 6 < 2 then insW s ((-((t : Int) / 6 + w (2 * (o + (t : Int) / 6) + (t : Int) % 6))) % n) (w (2 * (o + (t : Int) / 6) + (t : Int) % 6)) else some s)
theorem opt_id {α : Type} (x : Option α) : x.bind (fun s => some s) = x := by cases x <;> rfl
theorem bk6_s0 {w : Int → Int} {o n : Int} {t : Nat} (h : ¬ t % 6 < 2) : bk6 w o n (t + 1) = bk6 w o n t := by
  show (bk6 w o n t).bind (fun s => if t % 6 < 2 then _ else some s) = _
  simp only [if_neg h]
  exact opt_id _
theorem bk6_eq (w : Int → Int) (o n : Int) (i : Nat) : bk6 w o n (6 * i) = bkW w o n (2 * i) := by
  induction i with
  | zero => rfl
  | succ i ih =>
    rw [show 6 * (i + 1) = 6 * i + 1 + 1 + 1 + 1 + 1 + 1 by omega, bk6_s0 (by omega), bk6_s0 (by omega), bk6_s0 (by omega), bk6_s0 (by omega)]
    rw [show 2 * (i + 1) = 2 * i + 1 + 1 by omega]
    have e1 : bk6 w o n (6 * i + 1) = bkW w o n (2 * i + 1) := by
      show (bk6 w o n (6 * i)).bind _ = (bkW w o n (2 * i)).bind _
      rw [ih]
      congr 1
      funext s
      rw [if_pos (by omega), show ((6 * i : Nat) : Int) / 6 = (i : Int) by omega, show ((6 * i : Nat) : Int) % 6 = 0 by omega, show ((2 * i : Nat) : Int) / 2 = (i : Int) by omega, show 2 * (o + (i : Int)) + 0 = 2 * o + ((2 * i : Nat) : Int) by omega]
    show (bk6 w o n (6 * i + 1)).bind _ = (bkW w o n (2 * i + 1)).bind _
    rw [e1]
    congr 1
    funext s
    rw [if_pos (by omega), show ((6 * i + 1 : Nat) : Int) / 6 = (i : Int) by omega, show ((6 * i + 1 : Nat) : Int) % 6 = 1 by omega, show ((2 * i + 1 : Nat) : Int) / 2 = (i : Int) by omega, show 2 * (o + (i : Int)) + 1 = 2 * o + ((2 * i + 1 : Nat) : Int) by omega]
theorem RS_c {F : Nat → Int32} {w v : Int → Int} {m : Int} (h : RS F w m) (e : ∀ c : Int, 0 ≤ c → c < 2 * m → w c = v c) : RS F v m := fun c c0 c1 => by rw [← e c c0 c1]; exact h c c0 c1
theorem RS_put {F G S : Nat → Int32} {w s : Int → Int} {o n : Int} (h : RS F w (o + n)) (hs : RS S s n) (h0 : 0 ≤ o) (hn : 0 ≤ n) (hga : ∀ i : Int, 0 ≤ i → i < 6 * o → G i.toNat = F i.toNat) (hgs : ∀ i : Int, 0 ≤ i → i < 6 * n → G (6 * o + i).toNat = S (0 + i).toNat) : RS G (putW w s o n) (o + n) := by
  intro c c0 c1
  by_cases e : c < 2 * o
  · show _ = 4 * (if 2 * o ≤ c ∧ c < 2 * o + 2 * n then s (c - 2 * o) else w c)
    rw [if_neg (by omega), hga _ (by omega) (by omega)]
    exact h c c0 c1
  · show _ = 4 * (if 2 * o ≤ c ∧ c < 2 * o + 2 * n then s (c - 2 * o) else w c)
    rw [if_pos (by omega)]
    have h1 := hgs (6 * ((c - 2 * o) / 2) + (c - 2 * o) % 2) (by omega) (by omega)
    rw [show 6 * o + (6 * ((c - 2 * o) / 2) + (c - 2 * o) % 2) = 6 * (c / 2) + c % 2 by omega] at h1
    rw [h1, Int.zero_add]
    exact hs (c - 2 * o) (by omega) (by omega)
/-- any such row has its heights -/
def sD (F : Nat → Int32) : Int → Int := fun c => (F (6 * (c / 2) + c % 2).toNat).toInt / 4
theorem RS_D {F : Nat → Int32} {n : Int} (h : CellsX 1 F 0 (6 * n)) : RS F (sD F) n := fun c c0 c1 => by
  obtain ⟨a1, a2, a3, a4⟩ := h.1 (6 * (c / 2) + c % 2) (by omega) (by omega)
  show _ = 4 * ((F (6 * (c / 2) + c % 2).toNat).toInt / 4)
  omega
theorem bk6_0 {w : Int → Int} {o n : Int} {t : Nat} (h : t % 6 < 2 → w (2 * (o + (t : Int) / 6) + (t : Int) % 6) = 0) : bk6 w o n (t + 1) = bk6 w o n t := by
  by_cases e : t % 6 < 2
  · show (bk6 w o n t).bind (fun s => if t % 6 < 2 then insW s _ _ else some s) = _
    simp only [if_pos e, h e]
    have : ∀ s b, insW s b 0 = some s := fun s b => if_pos rfl
    simp only [this]
    exact opt_id _
  · exact bk6_s0 e
theorem bk6_i {w : Int → Int} {o n i x : Int} (h0 : 0 ≤ i) (hx : 0 ≤ x) (hx2 : x < 2) : bk6 w o n (6 * i + x + 1).toNat = (bk6 w o n (6 * i + x).toNat).bind (fun s => insW s ((-(i + w (2 * (o + i) + x))) % n) (w (2 * (o + i) + x))) := by
  rw [show (6 * i + x + 1).toNat = (6 * i + x).toNat + 1 by omega]
  show (bk6 w o n (6 * i + x).toNat).bind (fun s => if (6 * i + x).toNat % 6 < 2 then insW s ((-((((6 * i + x).toNat : Nat) : Int) / 6 + w (2 * (o + (((6 * i + x).toNat : Nat) : Int) / 6) + (((6 * i + x).toNat : Nat) : Int) % 6))) % n) (w (2 * (o + (((6 * i + x).toNat : Nat) : Int) / 6) + (((6 * i + x).toNat : Nat) : Int) % 6)) else some s) = _
  rw [show (((6 * i + x).toNat : Nat) : Int) = 6 * i + x by omega, show (6 * i + x) / 6 = i by omega, show (6 * i + x) % 6 = x by omega]
  simp only [if_pos (show (6 * i + x).toNat % 6 < 2 by omega)]
theorem bk6_z {w : Int → Int} {o n i x : Int} (h0 : 0 ≤ i) (hx : 0 ≤ x) (hx6 : x < 6) (h : x < 2 → w (2 * (o + i) + x) = 0) : bk6 w o n (6 * i + x + 1).toNat = bk6 w o n (6 * i + x).toNat := by
  rw [show (6 * i + x + 1).toNat = (6 * i + x).toNat + 1 by omega]
  refine bk6_0 (fun e => ?_)
  rw [show (((6 * i + x).toNat : Nat) : Int) = 6 * i + x by omega, show (6 * i + x) / 6 = i by omega, show (6 * i + x) % 6 = x by omega]
  exact h (by omega)
/-- begun d beats later, as far as T places are done -/
def tnW (w : Int → Int) (o n d T : Int) : Int → Int := fun c => if 6 * ((c / 2 + d) % n) + c % 2 < T then w (2 * (o + (c / 2 + d) % n) + c % 2) else 0
theorem tn_md {n d i b : Int} (h0 : 0 ≤ b) (h1 : b < n) (hi : 0 ≤ i) (hi1 : i < n) : (b + d) % n = i ↔ b = (i - d) % n := by
  have h := md_k (i := b) (n := n) (b := i) (d := d) h0 h1
  rw [Int.emod_eq_of_lt hi hi1] at h
  exact h.symm
theorem tn_z {F : Nat → Int32} {w : Int → Int} {o n d i x : Int} (h : RS F (tnW w o n d (6 * i + x)) n) (hn : 0 < n) (hx : 0 ≤ x) (hx6 : x < 6) (hz : x < 2 → w (2 * (o + i) + x) = 0) : RS F (tnW w o n d (6 * i + x + 1)) n := RS_c h (fun c c0 c1 => by
  unfold tnW
  have q1 := Int.emod_nonneg (c / 2 + d) (show n ≠ 0 by omega)
  by_cases e : 6 * ((c / 2 + d) % n) + c % 2 = 6 * i + x
  · have e1 : (c / 2 + d) % n = i := by omega
    have e2 : c % 2 = x := by omega
    rw [if_neg (by omega), if_pos (by omega), e1, e2]
    exact (hz (by omega)).symm
  · by_cases e3 : 6 * ((c / 2 + d) % n) + c % 2 < 6 * i + x
    · rw [if_pos e3, if_pos (by omega)]
    · rw [if_neg e3, if_neg (by omega)])
theorem tn_i {F : Nat → Int32} {w u : Int → Int} {o n d i x : Int} (hn : 0 < n) (hi : 0 ≤ i) (hi1 : i < n) (hx : 0 ≤ x) (hx2 : x < 2) (hp : 0 < w (2 * (o + i) + x)) (hs : w (2 * (o + i) + 1) ≤ w (2 * (o + i))) (hu : insW (tnW w o n d (6 * i + x)) ((i - d) % n) (w (2 * (o + i) + x)) = some u) (h : RS F u n) : RS F (tnW w o n d (6 * i + x + 1)) n := by
  have q1 := Int.emod_nonneg (i - d) (show n ≠ 0 by omega)
  have q2 := Int.emod_lt_of_pos (i - d) hn
  have hb : ((i - d) % n + d) % n = i := (tn_md q1 q2 hi hi1).mpr rfl
  generalize hB : (i - d) % n = B at *
  have s0 : tnW w o n d (6 * i + x) (2 * B) = if x = 1 then w (2 * (o + i)) else 0 := by
    unfold tnW
    rw [show 2 * B / 2 = B by omega, show 2 * B % 2 = 0 by omega, hb]
    by_cases e : x = 1
    · rw [if_pos (by omega), if_pos e, Int.add_zero]
    · rw [if_neg (by omega), if_neg e]
  have s1 : tnW w o n d (6 * i + x) (2 * B + 1) = 0 := by
    unfold tnW
    rw [show (2 * B + 1) / 2 = B by omega, show (2 * B + 1) % 2 = 1 by omega, hb, if_neg (by omega)]
  have fin : ∀ c : Int, 0 ≤ c → c < 2 * n → u c = tnW w o n d (6 * i + x + 1) c := by
    have base : ∀ c : Int, 0 ≤ c → c < 2 * n → c / 2 ≠ B → tnW w o n d (6 * i + x) c = tnW w o n d (6 * i + x + 1) c := fun c c0 c1 cB => by
      unfold tnW
      have e0 : (c / 2 + d) % n ≠ i := fun q => cB ((tn_md (by omega) (by omega) hi hi1).mp q |>.trans hB)
      by_cases e3 : 6 * ((c / 2 + d) % n) + c % 2 < 6 * i + x
      · rw [if_pos e3, if_pos (by omega)]
      · rw [if_neg e3, if_neg (by omega)]
    have n0 : tnW w o n d (6 * i + x + 1) (2 * B) = w (2 * (o + i)) := by
      unfold tnW
      rw [show 2 * B / 2 = B by omega, show 2 * B % 2 = 0 by omega, hb, if_pos (by omega), Int.add_zero]
    have n1 : tnW w o n d (6 * i + x + 1) (2 * B + 1) = if x = 1 then w (2 * (o + i) + 1) else 0 := by
      unfold tnW
      rw [show (2 * B + 1) / 2 = B by omega, show (2 * B + 1) % 2 = 1 by omega, hb]
      by_cases e : x = 1
      · rw [if_pos (by omega), if_pos e]
      · rw [if_neg (by omega), if_neg e]
    intro c c0 c1
    unfold insW at hu
    rw [if_neg (by omega), if_neg (by rw [s1]; omega), s0] at hu
    by_cases e : x = 1
    · rw [if_pos e, if_neg (by rw [e]; omega)] at hu
      cases hu
      by_cases c2 : c = 2 * B + 1
      · rw [c2, fu_s, n1, if_pos e, e]
      · rw [fu_n c2]
        by_cases c3 : c = 2 * B
        · rw [c3, s0, if_pos e, n0]
        · exact base c c0 c1 (by omega)
    · have ex : x = 0 := by omega
      rw [if_neg e, if_pos (by omega)] at hu
      cases hu
      by_cases c3 : c = 2 * B
      · rw [c3, fu_s, n0, ex, Int.add_zero]
      · rw [fu_n c3]
        by_cases c2 : c = 2 * B + 1
        · rw [c2, fu_s, n1, if_neg e]
        · rw [fu_n c2]; exact base c c0 c1 (by omega)
  exact RS_c h fin
theorem tn_ok {w : Int → Int} {o n d i x : Int} (hn : 0 < n) (hi : 0 ≤ i) (hi1 : i < n) (hx2 : x < 2) (hp : 0 < w (2 * (o + i) + x)) : insW (tnW w o n d (6 * i + x)) ((i - d) % n) (w (2 * (o + i) + x)) ≠ none := by
  have q1 := Int.emod_nonneg (i - d) (show n ≠ 0 by omega)
  have q2 := Int.emod_lt_of_pos (i - d) hn
  have hb : ((i - d) % n + d) % n = i := (tn_md q1 q2 hi hi1).mpr rfl
  have s1 : tnW w o n d (6 * i + x) (2 * ((i - d) % n) + 1) = 0 := by
    unfold tnW
    rw [show (2 * ((i - d) % n) + 1) / 2 = (i - d) % n by omega, show (2 * ((i - d) % n) + 1) % 2 = 1 by omega, hb, if_neg (by omega)]
  unfold insW
  rw [if_neg (by omega), if_neg (by rw [s1]; omega)]
  split
  · exact fun q => by cases q
  · exact fun q => by cases q
theorem tn_end {F : Nat → Int32} {w : Int → Int} {o n d : Int} (hn : 0 < n) (h : RS F (tnW w o n d (6 * n)) n) : RS F (fun j => w (2 * (o + (j / 2 + d) % n) + j % 2)) n := RS_c h (fun c c0 c1 => by
  unfold tnW
  have q2 := Int.emod_lt_of_pos (c / 2 + d) hn
  rw [if_pos (by omega)])
theorem ng_md {n i b : Int} (h0 : 0 ≤ b) (h1 : b < n) (hi : 0 ≤ i) (hi1 : i < n) : (-b) % n = i ↔ b = (-i) % n := by
  have a := md_k (i := i) (n := n) (b := 0) (d := b) hi hi1
  have c := md_k (i := b) (n := n) (b := 0) (d := i) h0 h1
  rw [Int.zero_sub] at a c
  rw [Int.add_comm b i] at c
  constructor
  · intro q
    exact c.mpr (a.mp q.symm)
  · intro q
    exact (a.mpr (c.mp q)).symm
/-- the dual, as far as T places are done -/
def dlW (w : Int → Int) (o n T : Int) : Int → Int := fun c => if c % 2 = 1 then 0 else if 6 * ((-(c / 2)) % n) < T then 9 - w (2 * (o + (-(c / 2)) % n)) else 0
theorem dlW_s {F : Nat → Int32} {w : Int → Int} {o n i x : Int} (h : RS F (dlW w o n (6 * i + x)) n) (hx : 1 ≤ x) (hx6 : x < 6) : RS F (dlW w o n (6 * i + x + 1)) n := RS_c h (fun c c0 c1 => by
  unfold dlW
  by_cases e : c % 2 = 1
  · rw [if_pos e, if_pos e]
  · rw [if_neg e, if_neg e]
    by_cases e3 : 6 * ((-(c / 2)) % n) < 6 * i + x
    · rw [if_pos e3, if_pos (by omega)]
    · rw [if_neg e3, if_neg (by omega)])
theorem dl_i {F G : Nat → Int32} {w : Int → Int} {o n i : Int} (hn : 0 < n) (hi : 0 ≤ i) (hi1 : i < n) (h : RS F (dlW w o n (6 * i)) n) (hu : ∀ j : Int, 0 ≤ j → j ≠ 6 * ((-i) % n) → G j.toNat = F j.toNat) (hv : (G (6 * ((-i) % n)).toNat).toInt = 4 * (9 - w (2 * (o + i)))) : RS G (dlW w o n (6 * i + 1)) n := by
  have q1 := Int.emod_nonneg (-i) (show n ≠ 0 by omega)
  have q2 := Int.emod_lt_of_pos (-i) hn
  intro c c0 c1
  have h9 := h c c0 c1
  by_cases e : c = 2 * ((-i) % n)
  · have e1 : (-(c / 2)) % n = i := (ng_md (by omega) (by omega) hi hi1).mpr (by omega)
    rw [show 6 * (c / 2) + c % 2 = 6 * ((-i) % n) by omega, hv]
    unfold dlW
    rw [if_neg (by omega), e1, if_pos (by omega)]
  · rw [hu _ (by omega) (by omega), h9]
    unfold dlW
    by_cases e0 : c % 2 = 1
    · rw [if_pos e0, if_pos e0]
    · rw [if_neg e0, if_neg e0]
      have e1 : (-(c / 2)) % n ≠ i := fun q => e (by have := (ng_md (by omega) (by omega) hi hi1).mp q; omega)
      by_cases e3 : 6 * ((-(c / 2)) % n) < 6 * i
      · rw [if_pos e3, if_pos (by omega)]
      · rw [if_neg e3, if_neg (by omega)]
theorem dl_end {F : Nat → Int32} {w : Int → Int} {o n : Int} (hn : 0 < n) (h : RS F (dlW w o n (6 * n)) n) : RS F (fun j => if j % 2 = 1 then 0 else 9 - w (2 * (o + (-(j / 2)) % n))) n := RS_c h (fun c c0 c1 => by
  unfold dlW
  have q2 := Int.emod_lt_of_pos (-(c / 2)) hn
  by_cases e : c % 2 = 1
  · rw [if_pos e, if_pos e]
  · rw [if_neg e, if_neg e, if_pos (by omega)])
theorem ov_id {w : Int → Int} {o n c : Int} (h0 : 0 ≤ o) (c0 : 0 ≤ c) (c1 : c < 2 * (o + n)) : putW w (fun j => w (2 * (o + (j / 2 + 0) % n) + j % 2)) o n c = w c := by
  unfold putW
  by_cases e : 2 * o ≤ c ∧ c < 2 * o + 2 * n
  · rw [if_pos e]
    show w (2 * (o + ((c - 2 * o) / 2 + 0) % n) + (c - 2 * o) % 2) = w c
    rw [Int.emod_eq_of_lt (by omega) (by omega)]
    congr 1
    omega
  · rw [if_neg e]
/-- the latest row of a letter up to a time -/
def LatV (R : Nat → Int32) (l t r : Int) : Prop := (r = -1 ∧ ∀ u : Int, 1 ≤ u → u ≤ t → (R (150 * (8 * u + l)).toNat).toInt ≤ 0) ∨ ∃ u : Int, 1 ≤ u ∧ u ≤ t ∧ r = 150 * (8 * u + l) ∧ 0 < (R r.toNat).toInt ∧ ∀ v : Int, u < v → v ≤ t → (R (150 * (8 * v + l)).toNat).toInt ≤ 0
theorem LatV_u {R : Nat → Int32} {l t r r' : Int} (h : LatV R l t r) (h' : LatV R l t r') : r = r' := by
  rcases h with ⟨h1, h2⟩ | ⟨u, u1, u2, u3, u4, u5⟩ <;> rcases h' with ⟨g1, g2⟩ | ⟨v, v1, v2, v3, v4, v5⟩
  · omega
  · have := h2 v v1 v2
    rw [v3] at v4
    omega
  · have := g2 u u1 u2
    rw [u3] at u4
    omega
  · rcases Int.lt_trichotomy u v with w | w | w
    · have := u5 v w v2
      rw [v3] at v4
      omega
    · rw [u3, v3, w]
    · have := v5 u w u2
      rw [u3] at u4
      omega
/-- heights from a place on -/
def RSo (F : Nat → Int32) (a : Int) (w : Int → Int) (m : Int) : Prop := ∀ c : Int, 0 ≤ c → c < 2 * m → (F (a + (6 * (c / 2) + c % 2)).toNat).toInt = 4 * w c
/-- the rows that letters name: told in this text, else the latest -/
def EnvF (R M C : Nat → Int32) (t : Int) (E : Int → Int × (Int → Int)) : Prop := ∀ l : Int, 0 ≤ l → l < 8 →
  (0 < (M l.toNat).toInt → (E l).1 = (M l.toNat).toInt ∧ RSo C (144 * l) (E l).2 (E l).1) ∧
  ((M l.toNat).toInt ≤ 0 → ∀ r : Int, LatV R l t r → (r = -1 → (E l).1 = 0) ∧ (0 ≤ r → (E l).1 = (R r.toNat).toInt ∧ RSo R (r + 1) (E l).2 (E l).1))
theorem RS_app {F G : Nat → Int32} {w r : Int → Int} {t n : Int} (h : RS F w t) (ht : 0 ≤ t) (hga : ∀ i : Int, 0 ≤ i → i < 6 * t → G i.toNat = F i.toNat) (hr : RSo G (6 * t) r n) : RS G (fun j => if j < 2 * t then w j else r (j - 2 * t)) (t + n) := by
  intro c c0 c1
  show _ = 4 * (if c < 2 * t then w c else r (c - 2 * t))
  by_cases e : c < 2 * t
  · rw [if_pos e, hga _ (by omega) (by omega)]; exact h c c0 (by omega)
  · rw [if_neg e]
    have h1 := hr (c - 2 * t) (by omega) (by omega)
    rw [show 6 * t + (6 * ((c - 2 * t) / 2) + (c - 2 * t) % 2) = 6 * (c / 2) + c % 2 by omega] at h1
    exact h1
/-- beats that come again -/
theorem RS_per {F G : Nat → Int32} {w : Int → Int} {t o m : Int} (h : RS F w t) (ho : 0 ≤ o) (hot : o < t) (hga : ∀ i : Int, 0 ≤ i → i < 6 * t → G i.toNat = F i.toNat) (hgs : ∀ i : Int, 0 ≤ i → i < 6 * m → G (6 * t + i).toNat = G (6 * o + i).toNat) : RS G (fun j => if j < 2 * t then w j else w (2 * o + (j - 2 * t) % (2 * (t - o)))) (t + m) := by
  have key : ∀ N : Nat, ∀ c : Int, 0 ≤ c → c < 2 * (t + m) → c.toNat < N → (G (6 * (c / 2) + c % 2).toNat).toInt = 4 * (if c < 2 * t then w c else w (2 * o + (c - 2 * t) % (2 * (t - o)))) := by
    intro N
    induction N with
    | zero => intro c _ _ h9; omega
    | succ N ih =>
      intro c c0 c1 c2
      by_cases e : c < 2 * t
      · rw [if_pos e, hga _ (by omega) (by omega)]; exact h c c0 (by omega)
      · rw [if_neg e]
        have h1 := hgs (6 * ((c - 2 * t) / 2) + (c - 2 * t) % 2) (by omega) (by omega)
        rw [show 6 * t + (6 * ((c - 2 * t) / 2) + (c - 2 * t) % 2) = 6 * (c / 2) + c % 2 by omega, show 6 * o + (6 * ((c - 2 * t) / 2) + (c - 2 * t) % 2) = 6 * ((2 * o + (c - 2 * t)) / 2) + (2 * o + (c - 2 * t)) % 2 by omega] at h1
        rw [h1, ih (2 * o + (c - 2 * t)) (by omega) (by omega) (by omega)]
        by_cases e2 : 2 * o + (c - 2 * t) < 2 * t
        · rw [if_pos e2, Int.emod_eq_of_lt (by omega) (by omega)]
        · rw [if_neg e2]
          have h2 := Int.add_mul_emod_self_left (2 * o + (c - 2 * t) - 2 * t) (2 * (t - o)) 1
          rw [show 2 * o + (c - 2 * t) - 2 * t + 2 * (t - o) * 1 = c - 2 * t by omega] at h2
          rw [h2]
  exact fun c c0 c1 => key (c.toNat + 1) c c0 c1 (by omega)
theorem or_F {r : Int} {A B : Prop} (h : (r = 0 ∧ A) ∨ (r ≠ 0 ∧ B)) (c : r ≠ 0) : B := by
  rcases h with h | h
  · exact absurd h.1 c
  · exact h.2
theorem or_T {r : Int} {A B : Prop} (h : (r = 0 ∧ A) ∨ (r ≠ 0 ∧ B)) (c : r = 0) : A := by
  rcases h with h | h
  · exact h.2
  · exact absurd c h.1
/-- a wrapper that hides a proposition from the arithmetic -/
def Hd (p : Prop) : Prop := p
