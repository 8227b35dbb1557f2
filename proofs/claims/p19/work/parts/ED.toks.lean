theorem fst_ex {P : Int → Prop} (d : Nat) : ∀ p : Int, P (p + (d : Int)) → ∃ q, p ≤ q ∧ P q ∧ ∀ i, p ≤ i → i < q → ¬ P i := by
  induction d with
  | zero => intro p h; exact ⟨p, Int.le_refl _, by rw [show p + ((0 : Nat) : Int) = p by omega] at h; exact h, fun i h1 h2 => absurd h2 (by omega)⟩
  | succ d ih =>
    intro p h
    by_cases q : P p
    · exact ⟨p, Int.le_refl _, q, fun i h1 h2 => absurd h2 (by omega)⟩
    · obtain ⟨r, r1, r2, r3⟩ := ih (p + 1) (by rw [show p + 1 + (d : Int) = p + ((d + 1 : Nat) : Int) by omega]; exact h)
      refine ⟨r, by omega, r2, fun i h1 h2 => ?_⟩
      by_cases e : i = p
      · rw [e]; exact q
      · exact r3 i (by omega) h2
theorem WKd_ex (B : Int → Int) (q e : Int) : ∃ k, WKd B q e k := by
  unfold WKd
  by_cases h1 : e - q = 1
  · by_cases h2 : 65 ≤ B q ∧ B q ≤ 72
    · exact ⟨2, Or.inl ⟨h1, Or.inl ⟨h2.1, h2.2, rfl⟩⟩⟩
    · by_cases h3 : B q = 112
      · exact ⟨4, Or.inl ⟨h1, Or.inr (Or.inl ⟨h3, rfl⟩)⟩⟩
      · exact ⟨3, Or.inl ⟨h1, Or.inr (Or.inr ⟨h2, h3, rfl⟩)⟩⟩
  · by_cases a : e - q = 3 ∧ B q = 114 ∧ B (q + 1) = 111 ∧ B (q + 2) = 119
    · exact ⟨5, Or.inr (Or.inl ⟨a.1, a.2.1, a.2.2.1, a.2.2.2, rfl⟩)⟩
    · by_cases b : e - q = 4 ∧ B q = 115 ∧ B (q + 1) = 101 ∧ B (q + 2) = 101 ∧ B (q + 3) = 110
      · exact ⟨6, Or.inr (Or.inr (Or.inl ⟨b.1, b.2.1, b.2.2.1, b.2.2.2.1, b.2.2.2.2, rfl⟩))⟩
      · by_cases c : e - q = 4 ∧ B q = 98 ∧ B (q + 1) = 97 ∧ B (q + 2) = 99 ∧ B (q + 3) = 107
        · exact ⟨7, Or.inr (Or.inr (Or.inr (Or.inl ⟨c.1, c.2.1, c.2.2.1, c.2.2.2.1, c.2.2.2.2, rfl⟩)))⟩
        · by_cases d : e - q = 4 ∧ B q = 111 ∧ B (q + 1) = 118 ∧ B (q + 2) = 101 ∧ B (q + 3) = 114
          · exact ⟨8, Or.inr (Or.inr (Or.inr (Or.inr (Or.inl ⟨d.1, d.2.1, d.2.2.1, d.2.2.2.1, d.2.2.2.2, rfl⟩))))⟩
          · by_cases f : e - q = 4 ∧ B q = 100 ∧ B (q + 1) = 117 ∧ B (q + 2) = 97 ∧ B (q + 3) = 108
            · exact ⟨9, Or.inr (Or.inr (Or.inr (Or.inr (Or.inr (Or.inl ⟨f.1, f.2.1, f.2.2.1, f.2.2.2.1, f.2.2.2.2, rfl⟩)))))⟩
            · by_cases g : e - q = 4 ∧ B q = 116 ∧ B (q + 1) = 117 ∧ B (q + 2) = 114 ∧ B (q + 3) = 110
              · exact ⟨10, Or.inr (Or.inr (Or.inr (Or.inr (Or.inr (Or.inr (Or.inl ⟨g.1, g.2.1, g.2.2.1, g.2.2.2.1, g.2.2.2.2, rfl⟩))))))⟩
              · exact ⟨3, Or.inr (Or.inr (Or.inr (Or.inr (Or.inr (Or.inr (Or.inr ⟨h1, a, b, c, d, f, g, rfl⟩))))))⟩
theorem TkR_ex {c : Nat → Int32} {n : Int} (p : Int) : ∃ t : Int × Int × Int × Int, TkR (sE c n) p t.1 t.2.1 t.2.2.1 t.2.2.2 := by
  have far : ∀ m : Int, n ≤ m → sE c n m = -1 := fun m h => sE_out h
  obtain ⟨q, q1, q2, q3⟩ := fst_ex (P := fun q => ¬ (sE c n q = 32 ∨ sE c n q = 10)) (n - p).toNat p (by
    show ¬ (sE c n (p + ((n - p).toNat : Int)) = 32 ∨ sE c n (p + ((n - p).toNat : Int)) = 10)
    rw [far _ (by omega)]; decide)
  have hb : ∀ i : Int, p ≤ i → i < q → sE c n i = 32 ∨ sE c n i = 10 := fun i h1 h2 => Classical.not_not.mp (q3 i h1 h2)
  by_cases h0 : sE c n q < 0
  · exact ⟨(0, 0, q, q), q1, hb, q2, Or.inl ⟨h0, rfl, rfl⟩⟩
  · by_cases h1 : 48 ≤ sE c n q ∧ sE c n q ≤ 57
    · exact ⟨(1, sE c n q - 48, q, q + 1), q1, hb, q2, Or.inr (Or.inl ⟨h1.1, h1.2, rfl, rfl, rfl⟩)⟩
    · by_cases h2 : isLt (sE c n q)
      · obtain ⟨e, e1, e2, e3⟩ := fst_ex (P := fun i => ¬ isLt (sE c n i)) (n - q).toNat q (by
          show ¬ isLt (sE c n (q + ((n - q).toNat : Int)))
          rw [far _ (by omega)]; unfold isLt; decide)
        obtain ⟨k, hk⟩ := WKd_ex (sE c n) q e
        refine ⟨(k, sE c n q - 65, q, e), q1, hb, q2, Or.inr (Or.inr (Or.inl ⟨h2, ?_, fun i i1 i2 => Classical.not_not.mp (e3 i i1 i2), e2, hk, rfl⟩))⟩
        show q < e
        rcases (show q < e ∨ q = e by omega) with r | r
        · exact r
        · rw [← r] at e2; exact absurd h2 e2
      · by_cases h3 : isSg (sE c n q)
        · exact ⟨(sE c n q, 0, q, q + 1), q1, hb, q2, Or.inr (Or.inr (Or.inr ⟨by show 0 ≤ sE c n q; omega, h1, h2, rfl, Or.inl ⟨h3, rfl⟩⟩))⟩
        · exact ⟨(3, 0, q, q + 1), q1, hb, q2, Or.inr (Or.inr (Or.inr ⟨by show 0 ≤ sE c n q; omega, h1, h2, rfl, Or.inr ⟨h3, rfl⟩⟩))⟩
def smP (F : Int → Int × Int × Int × Int) : Nat → Int
  | 0 => 0
  | i + 1 => (F (smP F i)).2.2.2
/-- each tape is a row of tokens -/
theorem SM_ex (c : Nat → Int32) (n : Int) : ∃ P ks vs : Nat → Int, SM (sE c n) P ks vs := by
  obtain ⟨F, hF⟩ := Classical.axiomOfChoice (fun p => TkR_ex (c := c) (n := n) p)
  exact ⟨smP F, fun i => (F (smP F i)).1, fun i => (F (smP F i)).2.1, rfl, fun i => ⟨(F (smP F i)).2.2.1, hF (smP F i)⟩⟩
theorem sE_e {F C : Nat → Int32} {n : Int} (h : TpE F C n) : sE C n = sE F n := by
  funext k
  unfold sE
  by_cases q : 0 ≤ k ∧ k < n
  · rw [if_pos q, if_pos q, h k q.1 q.2]
  · rw [if_neg q, if_neg q]
/-- both sides hold the same (one juggler) -/
def LKx (jn : Nat) (cI cR : ClassId) (g : Nat → Nat) (L : List Nat) (S : Sg) (f : Nat → va_E) (x0 x1 x2 : Int32) (f0 f2 : Nat → Int32) : Prop := jn = 1 → ∃ (lv gr : Nat → Nat) (Ev : Int → Env1) (cb : Nat → Int32), CLS cI cR jn g lv gr L S f x0.toInt x1.toInt Ev cb x2.toInt ∧ RefR f0 x0.toInt Ev ∧ (∀ t9 : Int, 0 ≤ t9 → t9 ≤ x0.toInt → EOk (Ev t9)) ∧ RefZ f0 x0.toInt ∧ TpE f2 cb x2.toInt
theorem LKx_fr {jn : Nat} {cI cR : ClassId} {g : Nat → Nat} {L : List Nat} {S : Sg} {f f1 : Nat → va_E} {x0 x1 x2 : Int32} {f0 f2 : Nat → Int32} {T9 : List Nat} (h : LKx jn cI cR g L S f x0 x1 x2 f0 f2) (hG : SG g L S) (hF : FR S T9 f f1) (ht : ∀ t ∈ ([0, 1, 11, 12, 20, 22, 23, 30] : List Nat), t ∉ T9) : LKx jn cI cR g L S f1 x0 x1 x2 f0 f2 := fun e => by
  obtain ⟨lv, gr, Ev, cb, h1, h2⟩ := h e
  exact ⟨lv, gr, Ev, cb, CLS_fr h1 hG hF ht, h2⟩
