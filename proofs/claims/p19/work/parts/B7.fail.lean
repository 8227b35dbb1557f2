/-- where the reading of a sequence begins -/
def Cf0 (i : Nat) : Cf := (i, 0, 0, 0, 0, 0, (fun _ => 0), (fun _ => 0), (fun _ => 0), (fun _ => 0))
/-- it ends well: what is held then -/
def SqR (P ks vs : Nat → Int) (E : Int → Int × (Int → Int)) (i : Nat) (b5 b7 b8 : Int32) (t : Int) (F : Nat → Int32) : Prop :=
  ∃ (ic : Nat) (o mt : Int) (w st op dg : Int → Int), Wel ks vs E (Cf0 i) (ic, 0, t, o, mt, 1, w, st, op, dg) ∧ CU P ks vs ic b5 b7 b8 ∧ RS F w t ∧ (∀ b : Int, 0 ≤ b → b < t → Srt w b) ∧ 0 < t
theorem F_times {ks vs : Nat → Int} {E : Int → Int × (Int → Int)} {i : Nat} {dep top o mt io : Int} {w st op dg : Int → Int} (hm : mt = 1) (hk : ks i = 42) (hn : ¬ (ks (i + 1) = 1 ∧ vs (i + 1) ≠ 0 ∧ top - st dep + (vs (i + 1) - 1) * (top - o) ≤ 24)) :
    ¬ Dne ks (i, dep, top, o, mt, io, w, st, op, dg) ∧ ∀ d, ¬ Sqp ks vs E (i, dep, top, o, mt, io, w, st, op, dg) d := by
  constructor
  · intro h
    unfold Dne at h
    dsimp only at h
    exact h.1 ⟨hm, hk⟩
  · intro d h
    unfold Sqp at h
    dsimp only at h
    rcases h with ⟨_, h2, h3, h4, _⟩ | ⟨h1, _⟩ | ⟨h1, _⟩ | ⟨h1, _⟩ | ⟨h1, _⟩
    · exact hn ⟨h2, h3, h4⟩
    · exact h1 ⟨hm, hk⟩
    · exact h1 ⟨hm, hk⟩
    · exact h1 ⟨hm, hk⟩
    · exact h1 ⟨hm, hk⟩
theorem F_closes {ks vs : Nat → Int} {E : Int → Int × (Int → Int)} {i : Nat} {dep top o mt io : Int} {w st op dg : Int → Int} (hk : ks i = 41) (hi : io = 1) (hd : 0 < dep) (hn : 24 < top - st (dep - 1) ∨ ChF (op (dep - 1)) w (st dep) (top - st dep)) :
    ¬ Dne ks (i, dep, top, o, mt, io, w, st, op, dg) ∧ ∀ d, ¬ Sqp ks vs E (i, dep, top, o, mt, io, w, st, op, dg) d := by
  constructor
  · intro h
    unfold Dne at h
    dsimp only at h
    omega
  · intro d h
    unfold Sqp at h
    dsimp only at h
    rcases h with ⟨h1, _⟩ | ⟨_, _, h3, w1, h4, _⟩ | ⟨_, h2, _⟩ | ⟨_, h2, _⟩ | ⟨_, h2, _⟩
    · omega
    · rcases hn with hn | hn
      · omega
      · exact ChW_F h4 hn
    · exact h2 ⟨hi, hk, hd⟩
    · omega
    · omega
theorem F_opens {ks vs : Nat → Int} {E : Int → Int × (Int → Int)} {i : Nat} {dep top o mt io : Int} {w st op dg : Int → Int} (hk : ks i = 40 ∨ (7 ≤ ks i ∧ ks i ≤ 10)) (hn : ¬ (dep < 5 ∧ (ks i = 40 ∨ ((7 ≤ ks i ∧ ks i ≤ 9) ∧ ks (i + 1) = 40) ∨ (ks i = 10 ∧ ks (i + 1) = 1 ∧ ks (i + 2) = 40)))) :
    ¬ Dne ks (i, dep, top, o, mt, io, w, st, op, dg) ∧ ∀ d, ¬ Sqp ks vs E (i, dep, top, o, mt, io, w, st, op, dg) d := by
  constructor
  · intro h
    unfold Dne Bgn at h
    dsimp only at h
    omega
  · intro d h
    unfold Sqp at h
    dsimp only at h
    rcases h with ⟨h1, _⟩ | ⟨_, h2, _⟩ | ⟨_, _, h3, h4⟩ | ⟨_, h2, _⟩ | ⟨_, h2, _⟩
    · omega
    · omega
    · rcases h4 with ⟨k1, _⟩ | ⟨k1, k2, _⟩ | ⟨k1, k2, k3, _⟩
      · exact hn ⟨h3, Or.inl k1⟩
      · exact hn ⟨h3, Or.inr (Or.inl ⟨k1, k2⟩)⟩
      · exact hn ⟨h3, Or.inr (Or.inr ⟨k1, k2, k3⟩)⟩
    · omega
    · omega
theorem F_depth {ks vs : Nat → Int} {E : Int → Int × (Int → Int)} {i : Nat} {dep top o mt io : Int} {w st op dg : Int → Int} (hm : ¬ (mt = 1 ∧ ks i = 42)) (hc : ¬ (io = 1 ∧ ks i = 41 ∧ 0 < dep)) (hb : ¬ Bgn (ks i)) (hd : 0 < dep) :
    ¬ Dne ks (i, dep, top, o, mt, io, w, st, op, dg) ∧ ∀ d, ¬ Sqp ks vs E (i, dep, top, o, mt, io, w, st, op, dg) d := by
  unfold Bgn at hb
  constructor
  · intro h
    unfold Dne at h
    dsimp only at h
    omega
  · intro d h
    unfold Sqp at h
    dsimp only at h
    rcases h with ⟨h1, _⟩ | ⟨_, h2, _⟩ | ⟨_, _, h3, h4⟩ | ⟨_, h2, _⟩ | ⟨_, h2, _⟩
    · exact hm h1
    · exact hc h2
    · rcases h4 with ⟨k1, _⟩ | ⟨k1, k2, _⟩ | ⟨k1, k2, k3, _⟩ <;> omega
    · omega
    · omega
theorem F_letter {ks vs : Nat → Int} {E : Int → Int × (Int → Int)} {i : Nat} {dep top o mt io : Int} {w st op dg : Int → Int} (hk : ks i = 2) (hn : (E (vs i)).1 ≤ 0 ∨ 24 < top - st dep + (E (vs i)).1) :
    ¬ Dne ks (i, dep, top, o, mt, io, w, st, op, dg) ∧ ∀ d, ¬ Sqp ks vs E (i, dep, top, o, mt, io, w, st, op, dg) d := by
  constructor
  · intro h
    unfold Dne Bgn at h
    dsimp only at h
    omega
  · intro d h
    unfold Sqp at h
    dsimp only at h
    rcases h with ⟨h1, _⟩ | ⟨_, h2, _⟩ | ⟨_, _, h3, h4⟩ | ⟨_, _, h3, h4, _⟩ | ⟨_, h2, _⟩
    · omega
    · omega
    · rcases h4 with ⟨k1, _⟩ | ⟨k1, k2, _⟩ | ⟨k1, k2, k3, _⟩ <;> omega
    · omega
    · omega
theorem F_beat {ks vs : Nat → Int} {E : Int → Int × (Int → Int)} {i : Nat} {dep top o mt io : Int} {w st op dg : Int → Int} (hm : ¬ (mt = 1 ∧ ks i = 42)) (hc : ¬ (io = 1 ∧ ks i = 41 ∧ 0 < dep)) (ho : ¬ (ks i = 40 ∨ (7 ≤ ks i ∧ ks i ≤ 10))) (h2k : ks i ≠ 2) (hb : io = 1 → Bgn (ks i)) (hn : BtF ks vs i ∨ 24 < top + 1 - st dep) :
    ¬ Dne ks (i, dep, top, o, mt, io, w, st, op, dg) ∧ ∀ d, ¬ Sqp ks vs E (i, dep, top, o, mt, io, w, st, op, dg) d := by
  constructor
  · intro h
    unfold Dne at h
    dsimp only at h
    exact h.2.2.2 (hb h.2.2.1)
  · intro d h
    unfold Sqp at h
    dsimp only at h
    rcases h with ⟨h1, _⟩ | ⟨_, h2, _⟩ | ⟨_, _, h3, h4⟩ | ⟨_, h2, _⟩ | ⟨_, _, a, b, j, h3, h4, _⟩
    · exact hm h1
    · exact hc h2
    · rcases h4 with ⟨k1, _⟩ | ⟨k1, k2, _⟩ | ⟨k1, k2, k3, _⟩ <;> omega
    · omega
    · rcases hn with hn | hn
      · exact Bt_or h3 hn
      · omega
theorem SI_F {P ks vs : Nat → Int} {E : Int → Int × (Int → Int)} {c0 : Cf} {mt io a5 a7 a8 a10 a11 a12 : Int32} {q3 q4 q5 q6 : Nat → Int32} {ic : Nat} {o : Int} {w st op dg : Int → Int}
    (h : SI P ks vs E c0 mt io a5 a7 a8 a10 a11 a12 q3 q4 q5 q6 ic o w st op dg)
    (hs : ¬ Dne ks (ic, a11.toInt, a10.toInt, o, mt.toInt, io.toInt, w, st, op, dg) ∧ ∀ d, ¬ Sqp ks vs E (ic, a11.toInt, a10.toInt, o, mt.toInt, io.toInt, w, st, op, dg) d) : Fls ks vs E c0 := ⟨_, h.1, hs.1, hs.2⟩
theorem Bt_v {B : Int → Int} {P ks vs : Nat → Int} {i j : Nat} {a b : Int} (hS9 : SM B P ks vs) (h : BtR ks vs i a b j) : b ≤ a ∧ 0 ≤ b ∧ a ≤ 9 := by
  have key : ∀ k : Nat, ks k = 1 → 0 ≤ vs k ∧ vs k ≤ 9 := fun k hk => by
    obtain ⟨q, hq⟩ := hS9.2 k
    exact (TkR_k hq).2.2.1 hk
  unfold BtR at h
  rcases h with ⟨_, h2, h3, h4, _⟩ | ⟨_, h2, h3, _, _, h4⟩
  · have := key i h2.1
    omega
  · have t1 := key (i + 1) h2.1
    have t2 := key _ h3.1
    omega
theorem SI_0 {P ks vs : Nat → Int} {E : Int → Int × (Int → Int)} {a5 a7 a8 a12 : Int32} {q3 q4 q5 q6 : Nat → Int32} {i : Nat} (h : CU P ks vs i a5 a7 a8) (h6 : (q6 (0 : Int).toNat).toInt = 0) : SI P ks vs E (Cf0 i) 0 0 a5 a7 a8 0 0 a12 q3 q4 q5 q6 i 0 (fun _ => 0) (fun _ => 0) (fun _ => 0) (fun _ => 0) := by
  have z : (0 : Int32).toInt = 0 := by decide
  unfold SI
  rw [z]
  refine ⟨Go_rf, h, fun c c0 c1 => absurd c1 (by omega), fun b b0 b1 => absurd b1 (by omega), fun k k0 k1 => ?_, fun k k0 k1 => absurd k1 (by omega), fun q => absurd q (by decide), fun q => absurd q (by decide)⟩
  rw [show k = 0 by omega]; exact h6
theorem SI_R {P ks vs : Nat → Int} {E : Int → Int × (Int → Int)} {i : Nat} {mt io a5 a7 a8 a10 a11 a12 : Int32} {q3 q4 q5 q6 : Nat → Int32} {ic : Nat} {o : Int} {w st op dg : Int → Int}
    (h : SI P ks vs E (Cf0 i) mt io a5 a7 a8 a10 a11 a12 q3 q4 q5 q6 ic o w st op dg) (hd : a11.toInt = 0) (hi : io.toInt = 1) (hm : ¬ (mt.toInt = 1 ∧ a7.toInt = 42)) (hb : ¬ Bgn a7.toInt) (h0 : (q6 (0 : Int).toNat).toInt = 0) : SqR P ks vs E i a5 a7 a8 a10.toInt q3 := by
  obtain ⟨k1, k2, k3, k4, k5, _, _, k8⟩ := h
  have z1 := k8 hi
  have z2 := k5 0 (by omega) (by omega)
  rw [hd] at z1
  have hpos : 0 < a10.toInt := by omega
  rw [hd, hi] at k1
  have hk : ks ic = a7.toInt := k2.2.1.symm
  refine ⟨ic, o, mt.toInt, w, st, op, dg, ⟨k1, ?_⟩, k2, k3, k4, hpos⟩
  unfold Dne
  dsimp only
  exact ⟨by rw [hk]; exact hm, rfl, rfl, by rw [hk]; exact hb⟩
