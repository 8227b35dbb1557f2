/-- where the class stands in a sequence at depth d: the rows of the levels below it -/
def MSb (cI : ClassId) (jn : Nat) (g lv : Nat → Nat) (S : Sg) (f : Nat → va_E) (d top : Int) (w st op dg : Int → Int) : Prop := (0 ≤ d ∧ d ≤ 5) ∧ (∀ k : Int, 0 ≤ k → k ≤ d → 0 ≤ st k ∧ st k ≤ st d) ∧ (∀ k : Int, 0 ≤ k → k < d → st k ≤ st (k + 1) ∧ st (k + 1) ≤ st d ∧ st (k + 1) - st k ≤ 24 ∧ RWf cI jn S f (lv k.toNat) (st (k + 1) - st k) (fun j => w (2 * st k + j)) ∧ (op k = 10 → TNf cI g f k (dg k))) ∧ st d ≤ top ∧ (∀ b : Int, 0 ≤ b → b < top → Srt w b)
def MSt (cI : ClassId) (jn : Nat) (g lv : Nat → Nat) (S : Sg) (f : Nat → va_E) (d top : Int) (w st op dg : Int → Int) : Prop := MSb cI jn g lv S f d top w st op dg ∧ top - st d ≤ 24 ∧ RWf cI jn S f (lv d.toNat) (top - st d) (fun j => w (2 * st d + j))
theorem MSb_fx {cI : ClassId} {jn : Nat} {g lv : Nat → Nat} {S : Sg} {f f1 : Nat → va_E} {d top top1 : Int} {w w1 st op dg : Int → Int} {B : Nat → Prop} {T2 : List Nat} (h : MSb cI jn g lv S f d top w st op dg) (hX : FX S B T2 f f1) (h2 : 0 ∉ T2 ∧ 1 ∉ T2) (hb : ∀ k : Int, 0 ≤ k → k < d → ¬ B (lv k.toNat)) (ht : ∀ k v : Int, 0 ≤ k → k < d → TNf cI g f k v → TNf cI g f1 k v)
    (hw : ∀ j : Int, 0 ≤ j → j < 2 * st d → w1 j = w j) (h1 : st d ≤ top1) (hs : ∀ b : Int, 0 ≤ b → b < top1 → Srt w1 b) : MSb cI jn g lv S f1 d top1 w1 st op dg := by
  obtain ⟨a1, a2, a3, a4, a5⟩ := h
  refine ⟨a1, a2, fun k k0 k1 => ?_, h1, hs⟩
  obtain ⟨b1, b2, b3, b4, b5⟩ := a3 k k0 k1
  have b6 := a2 k k0 (by omega)
  refine ⟨b1, b2, b3, RWf_c (RWf_fx b4 hX (hb k k0 k1) h2) (fun i i0 i1 => (hw _ (by omega) (by omega)).symm), fun q => ht k _ k0 k1 (b5 q)⟩
theorem MSb_rf {cI : ClassId} {jn : Nat} {g lv : Nat → Nat} {S : Sg} {f f1 : Nat → va_E} {d top : Int} {w st op dg : Int → Int} {B : Nat → Prop} {T2 : List Nat} (h : MSb cI jn g lv S f d top w st op dg) (hX : FX S B T2 f f1) (h2 : 0 ∉ T2 ∧ 1 ∉ T2) (hb : ∀ k : Int, 0 ≤ k → k < d → ¬ B (lv k.toNat)) (ht : ∀ k v : Int, 0 ≤ k → k < d → TNf cI g f k v → TNf cI g f1 k v) : MSb cI jn g lv S f1 d top w st op dg := MSb_fx h hX h2 hb ht (fun _ _ _ => rfl) h.2.2.2.1 h.2.2.2.2
theorem MSt_fx {cI : ClassId} {jn : Nat} {g lv : Nat → Nat} {S : Sg} {f f1 : Nat → va_E} {d top : Int} {w st op dg : Int → Int} {B : Nat → Prop} {T2 : List Nat} (h : MSt cI jn g lv S f d top w st op dg) (hX : FX S B T2 f f1) (h2 : 0 ∉ T2 ∧ 1 ∉ T2) (hb : ∀ k : Int, 0 ≤ k → k ≤ d → ¬ B (lv k.toNat)) (ht : ∀ k v : Int, 0 ≤ k → k < d → TNf cI g f k v → TNf cI g f1 k v) : MSt cI jn g lv S f1 d top w st op dg := ⟨MSb_rf h.1 hX h2 (fun k k0 k1 => hb k k0 (by omega)) ht, h.2.1, RWf_fx h.2.2 hX (hb d h.1.1.1 (Int.le_refl _)) h2⟩
theorem MSb_eq {cI : ClassId} {jn : Nat} {g lv : Nat → Nat} {S : Sg} {f : Nat → va_E} {d top : Int} {w st op dg st1 op1 dg1 : Int → Int} (h : MSb cI jn g lv S f d top w st op dg) (h1 : ∀ k : Int, 0 ≤ k → k ≤ d → st1 k = st k) (h2 : ∀ k : Int, 0 ≤ k → k < d → op1 k = op k ∧ dg1 k = dg k) : MSb cI jn g lv S f d top w st1 op1 dg1 := by
  obtain ⟨a1, a2, a3, a4, a5⟩ := h
  have e := h1 d a1.1 (Int.le_refl _)
  refine ⟨a1, fun k k0 k1 => by rw [h1 k k0 k1, e]; exact a2 k k0 k1, fun k k0 k1 => ?_, by rw [e]; exact a4, a5⟩
  rw [h1 k k0 (by omega), h1 (k + 1) (by omega) (by omega), e, (h2 k k0 k1).1, (h2 k k0 k1).2]
  exact a3 k k0 k1
theorem TN_fr {cI : ClassId} {g : Nat → Nat} {L : List Nat} {S : Sg} {f f1 : Nat → va_E} {T : List Nat} (hG : SG g L S) (hF : FR S T f f1) (ht : 34 ∉ T) (k v : Int) (h : TNf cI g f k v) : TNf cI g f1 k v := by
  obtain ⟨ct, q1, q2⟩ := h
  exact ⟨ct, by rw [hF _ (by rw [gs_34 hG]; exact ht)]; exact q1, q2⟩
theorem LvC_fr {cR : ClassId} {g lv : Nat → Nat} {L : List Nat} {S : Sg} {f f1 : Nat → va_E} {T : List Nat} (h : LvC cR g lv f) (hG : SG g L S) (hF : FR S T f f1) (ht : 22 ∉ T) : LvC cR g lv f1 := by
  obtain ⟨c, q1, q2⟩ := h
  exact ⟨c, by rw [hF _ (by rw [gs_22 hG]; exact ht)]; exact q1, q2⟩
/-- a sequence's step: a beat -/
theorem L_beat {cI : ClassId} {jn : Nat} {g lv : Nat → Nat} {S : Sg} {f f1 : Nat → va_E} {ks vs : Nat → Int} {E : Env1} {i j : Nat} {d top one may isO a b : Int} {w st op dg st1 op1 dg1 : Int → Int}
    (h : MSt cI jn g lv S f d top w st op dg) (hfr : ∀ (top1 : Int) (w1 : Int → Int), (∀ j : Int, 0 ≤ j → j < 2 * st d → w1 j = w j) → st d ≤ top1 → (∀ b : Int, 0 ≤ b → b < top1 → Srt w1 b) → MSb cI jn g lv S f1 d top1 w1 st op dg) (hm : ¬ (may = 1 ∧ ks i = 42)) (hst : st1 d = st d) (bt : BtR ks vs i a b j) (hv : b ≤ a ∧ 0 ≤ b ∧ a ≤ 9) (hc : top - st d + 1 ≤ 24)
    (hr : RWf cI jn S f1 (lv d.toNat) (top - st d + 1) (fupd (fupd (fun j => w (2 * st d + j)) (2 * (top - st d)) a) (2 * (top - st d) + 1) b)) :
    Sqp ks vs E (i, d, top, one, may, isO, w, st1, op1, dg1) (j, d, top + 1, top, 1, 1, fupd (fupd w (2 * top) a) (2 * top + 1) b, st1, op1, dg1) ∧ MSt cI jn g lv S f1 d (top + 1) (fupd (fupd w (2 * top) a) (2 * top + 1) b) st op dg ∧ ∀ j : Int, 0 ≤ j → j < 2 * st d → (fupd (fupd w (2 * top) a) (2 * top + 1) b) j = w j := by
  have hk : ks i = 1 ∨ ks i = 91 := by
    rcases bt with t | t
    · exact Or.inl t.2.1.1
    · exact Or.inr t.1
  have hst0 := (h.1.2.1 d h.1.1.1 (Int.le_refl _)).1
  have htop := h.1.2.2.2.1
  have hag : ∀ j : Int, 0 ≤ j → j < 2 * st d → (fupd (fupd w (2 * top) a) (2 * top + 1) b) j = w j := fun j j0 j1 => by rw [fu_n (by omega), fu_n (by omega)]
  refine ⟨?_, ⟨hfr _ _ hag (by omega) (fun c c0 c1 => ?_), by omega, ?_⟩, hag⟩
  · unfold Sqp
    dsimp only
    exact Or.inr (Or.inr (Or.inr (Or.inr ⟨hm, hk, a, b, j, bt, by rw [hst]; omega, rfl⟩)))
  · by_cases e : c < top
    · unfold Srt
      rw [fu_n (by omega), fu_n (by omega), fu_n (by omega), fu_n (by omega)]
      exact h.1.2.2.2.2 c c0 e
    · rw [show c = top by omega]
      unfold Srt
      rw [fu_s, fu_n (by omega), fu_s]
      exact hv
  · rw [show top + 1 - st d = top - st d + 1 by omega]
    refine RWf_c hr (fun k k0 k1 => ?_)
    by_cases e1 : k = 2 * (top - st d) + 1
    · rw [e1, fu_s, show 2 * st d + (2 * (top - st d) + 1) = 2 * top + 1 by omega, fu_s]
    · rw [fu_n e1]
      by_cases e2 : k = 2 * (top - st d)
      · rw [e2, fu_s, show 2 * st d + 2 * (top - st d) = 2 * top by omega, fu_n (by omega), fu_s]
      · rw [fu_n e2, fu_n (by omega), fu_n (by omega)]
/-- a letter -/
theorem L_letter {cI : ClassId} {jn : Nat} {g lv : Nat → Nat} {S : Sg} {f f1 : Nat → va_E} {ks vs : Nat → Int} {E : Env1} {i : Nat} {d top one may isO : Int} {w st op dg st1 op1 dg1 : Int → Int}
    (h : MSt cI jn g lv S f d top w st op dg) (hfr : ∀ (top1 : Int) (w1 : Int → Int), (∀ j : Int, 0 ≤ j → j < 2 * st d → w1 j = w j) → st d ≤ top1 → (∀ b : Int, 0 ≤ b → b < top1 → Srt w1 b) → MSb cI jn g lv S f1 d top1 w1 st op dg) (hm : ¬ (may = 1 ∧ ks i = 42)) (hst : st1 d = st d) (hk : ks i = 2) (h0 : 0 < (E (vs i)).1) (hes : ∀ b : Int, 0 ≤ b → b < (E (vs i)).1 → Srt (E (vs i)).2 b) (hc : top - st d + (E (vs i)).1 ≤ 24)
    (hr : RWf cI jn S f1 (lv d.toNat) (top - st d + (E (vs i)).1) (fun j => if j < 2 * (top - st d) then (fun j => w (2 * st d + j)) j else (E (vs i)).2 (j - 2 * (top - st d)))) :
    Sqp ks vs E (i, d, top, one, may, isO, w, st1, op1, dg1) (i + 1, d, top + (E (vs i)).1, top, 1, 1, (fun j => if j < 2 * top then w j else (E (vs i)).2 (j - 2 * top)), st1, op1, dg1) ∧ MSt cI jn g lv S f1 d (top + (E (vs i)).1) (fun j => if j < 2 * top then w j else (E (vs i)).2 (j - 2 * top)) st op dg ∧ ∀ j : Int, 0 ≤ j → j < 2 * st d → (fun j => if j < 2 * top then w j else (E (vs i)).2 (j - 2 * top)) j = w j := by
  have hst0 := (h.1.2.1 d h.1.1.1 (Int.le_refl _)).1
  have htop := h.1.2.2.2.1
  have hag : ∀ j : Int, 0 ≤ j → j < 2 * st d → (fun j => if j < 2 * top then w j else (E (vs i)).2 (j - 2 * top)) j = w j := fun j j0 j1 => if_pos (by omega)
  refine ⟨?_, ⟨hfr _ _ hag (by omega) (fun c c0 c1 => ?_), by omega, ?_⟩, hag⟩
  · unfold Sqp
    dsimp only
    exact Or.inr (Or.inr (Or.inr (Or.inl ⟨hm, hk, h0, by rw [hst]; exact hc, rfl⟩)))
  · by_cases e : c < top
    · have := h.1.2.2.2.2 c c0 e
      unfold Srt at this ⊢
      show (if 2 * c + 1 < 2 * top then w (2 * c + 1) else _) ≤ (if 2 * c < 2 * top then w (2 * c) else _) ∧ 0 ≤ (if 2 * c + 1 < 2 * top then w (2 * c + 1) else _) ∧ (if 2 * c < 2 * top then w (2 * c) else _) ≤ 9
      rw [if_pos (by omega), if_pos (by omega)]
      exact this
    · have := hes (c - top) (by omega) (by omega)
      unfold Srt at this ⊢
      show (if 2 * c + 1 < 2 * top then _ else (E (vs i)).2 (2 * c + 1 - 2 * top)) ≤ (if 2 * c < 2 * top then _ else (E (vs i)).2 (2 * c - 2 * top)) ∧ 0 ≤ (if 2 * c + 1 < 2 * top then _ else (E (vs i)).2 (2 * c + 1 - 2 * top)) ∧ (if 2 * c < 2 * top then _ else (E (vs i)).2 (2 * c - 2 * top)) ≤ 9
      rw [if_neg (by omega), if_neg (by omega), show 2 * c + 1 - 2 * top = 2 * (c - top) + 1 by omega, show 2 * c - 2 * top = 2 * (c - top) by omega]
      exact this
  · rw [show top + (E (vs i)).1 - st d = top - st d + (E (vs i)).1 by omega]
    refine RWf_c hr (fun k k0 k1 => ?_)
    show (if k < 2 * (top - st d) then w (2 * st d + k) else (E (vs i)).2 (k - 2 * (top - st d))) = (if 2 * st d + k < 2 * top then w (2 * st d + k) else (E (vs i)).2 (2 * st d + k - 2 * top))
    by_cases e : k < 2 * (top - st d)
    · rw [if_pos e, if_pos (by omega)]
    · rw [if_neg e, if_neg (by omega), show k - 2 * (top - st d) = 2 * st d + k - 2 * top by omega]
/-- so many times -/
theorem L_times {cI : ClassId} {jn : Nat} {g lv : Nat → Nat} {S : Sg} {f f1 : Nat → va_E} {ks vs : Nat → Int} {E : Env1} {i : Nat} {d top one may isO : Int} {w st op dg st1 op1 dg1 : Int → Int}
    (h : MSt cI jn g lv S f d top w st op dg) (hfr : ∀ (top1 : Int) (w1 : Int → Int), (∀ j : Int, 0 ≤ j → j < 2 * st d → w1 j = w j) → st d ≤ top1 → (∀ b : Int, 0 ≤ b → b < top1 → Srt w1 b) → MSb cI jn g lv S f1 d top1 w1 st op dg) (hm : may = 1) (hst : st1 d = st d) (hk : ks i = 42) (hk1 : ks (i + 1) = 1) (hv : vs (i + 1) ≠ 0) (hv0 : 0 ≤ vs (i + 1)) (ho : st d ≤ one ∧ one < top) (hc : top - st d + (vs (i + 1) - 1) * (top - one) ≤ 24)
    (hr : RWf cI jn S f1 (lv d.toNat) (top - st d + (vs (i + 1) - 1) * (top - one)) (tmW (fun j => w (2 * st d + j)) (top - st d) (one - st d))) :
    Sqp ks vs E (i, d, top, one, may, isO, w, st1, op1, dg1) (i + 2, d, top + (vs (i + 1) - 1) * (top - one), one, 0, isO, (fun j => if j < 2 * top then w j else w (2 * one + (j - 2 * top) % (2 * (top - one)))), st1, op1, dg1) ∧ MSt cI jn g lv S f1 d (top + (vs (i + 1) - 1) * (top - one)) (fun j => if j < 2 * top then w j else w (2 * one + (j - 2 * top) % (2 * (top - one)))) st op dg ∧ ∀ j : Int, 0 ≤ j → j < 2 * st d → (fun j => if j < 2 * top then w j else w (2 * one + (j - 2 * top) % (2 * (top - one)))) j = w j := by
  have hst0 := (h.1.2.1 d h.1.1.1 (Int.le_refl _)).1
  have htop := h.1.2.2.2.1
  have hm0 : 0 ≤ (vs (i + 1) - 1) * (top - one) := Int.mul_nonneg (by omega) (by omega)
  have hag : ∀ j : Int, 0 ≤ j → j < 2 * st d → (fun j => if j < 2 * top then w j else w (2 * one + (j - 2 * top) % (2 * (top - one)))) j = w j := fun j j0 j1 => if_pos (by omega)
  refine ⟨?_, ⟨hfr _ _ hag (by omega) (fun c c0 c1 => ?_), by omega, ?_⟩, hag⟩
  · unfold Sqp
    dsimp only
    exact Or.inl ⟨⟨hm, hk⟩, hk1, hv, by rw [hst]; exact hc, rfl⟩
  · by_cases e : c < top
    · have := h.1.2.2.2.2 c c0 e
      unfold Srt at this ⊢
      show (if 2 * c + 1 < 2 * top then w (2 * c + 1) else _) ≤ (if 2 * c < 2 * top then w (2 * c) else _) ∧ 0 ≤ (if 2 * c + 1 < 2 * top then w (2 * c + 1) else _) ∧ (if 2 * c < 2 * top then w (2 * c) else _) ≤ 9
      rw [if_pos (by omega), if_pos (by omega)]
      exact this
    · have q := md_2 (k := c - top) (n := top - one) (by omega)
      have r1 := Int.emod_nonneg (c - top) (show top - one ≠ 0 by omega)
      have r2 := Int.emod_lt_of_pos (c - top) (show 0 < top - one by omega)
      have := h.1.2.2.2.2 (one + (c - top) % (top - one)) (by omega) (by omega)
      unfold Srt at this ⊢
      show (if 2 * c + 1 < 2 * top then _ else w (2 * one + (2 * c + 1 - 2 * top) % (2 * (top - one)))) ≤ (if 2 * c < 2 * top then _ else w (2 * one + (2 * c - 2 * top) % (2 * (top - one)))) ∧ 0 ≤ (if 2 * c + 1 < 2 * top then _ else w (2 * one + (2 * c + 1 - 2 * top) % (2 * (top - one)))) ∧ (if 2 * c < 2 * top then _ else w (2 * one + (2 * c - 2 * top) % (2 * (top - one)))) ≤ 9
      rw [if_neg (by omega), if_neg (by omega), show 2 * c + 1 - 2 * top = 2 * (c - top) + 1 by omega, show 2 * c - 2 * top = 2 * (c - top) by omega, q.1, q.2, show 2 * one + (2 * ((c - top) % (top - one)) + 1) = 2 * (one + (c - top) % (top - one)) + 1 by omega, show 2 * one + 2 * ((c - top) % (top - one)) = 2 * (one + (c - top) % (top - one)) by omega]
      exact this
  · rw [show top + (vs (i + 1) - 1) * (top - one) - st d = top - st d + (vs (i + 1) - 1) * (top - one) by omega]
    refine RWf_c hr (fun k k0 k1 => ?_)
    unfold tmW
    show (if k < 2 * (top - st d) then w (2 * st d + k) else w (2 * st d + (2 * (one - st d) + (k - 2 * (top - st d)) % (2 * (top - st d - (one - st d)))))) = (if 2 * st d + k < 2 * top then w (2 * st d + k) else w (2 * one + (2 * st d + k - 2 * top) % (2 * (top - one))))
    by_cases e : k < 2 * (top - st d)
    · rw [if_pos e, if_pos (by omega)]
    · rw [if_neg e, if_neg (by omega), show top - st d - (one - st d) = top - one by omega, show k - 2 * (top - st d) = 2 * st d + k - 2 * top by omega]
      congr 1
      omega
/-- a bracket opens -/
theorem L_open {cI : ClassId} {jn : Nat} {g lv : Nat → Nat} {S : Sg} {f : Nat → va_E} {d top K D : Int} {w st op dg : Int → Int} (h : MSt cI jn g lv S f d top w st op dg) (hd : d < 5) (hT : K = 10 → TNf cI g f d D) : MSb cI jn g lv S f (d + 1) top w (fupd st (d + 1) top) (fupd op d K) (fupd dg d D) := by
  obtain ⟨⟨a1, a2, a3, a4, a5⟩, b1, b2⟩ := h
  refine ⟨by omega, fun k k0 k1 => ?_, fun k k0 k1 => ?_, by rw [fu_s]; exact Int.le_refl _, a5⟩
  · rw [fu_s]
    by_cases e : k = d + 1
    · rw [e, fu_s]
      have := a2 d a1.1 (Int.le_refl _)
      omega
    · rw [fu_n e]
      have := a2 k k0 (by omega)
      omega
  · rw [fu_s, fu_n (show k ≠ d + 1 by omega)]
    by_cases e : k = d
    · subst e
      rw [fu_s, fu_s, fu_s]
      exact ⟨a4, Int.le_refl _, b1, b2, hT⟩
    · rw [fu_n (show k + 1 ≠ d + 1 by omega), fu_n e, fu_n e]
      obtain ⟨c1, c2, c3, c4, c5⟩ := a3 k k0 (by omega)
      exact ⟨c1, by omega, c3, c4, c5⟩
theorem bk_sh {w : Int → Int} {o n : Int} (k : Nat) : bkW (fun j => w (2 * o + j)) 0 n k = bkW w o n k := by
  induction k with
  | zero => rfl
  | succ k ih =>
    show (bkW (fun j => w (2 * o + j)) 0 n k).bind (fun s => insW s ((-((k : Int) / 2 + w (2 * o + (2 * 0 + (k : Int))))) % n) (w (2 * o + (2 * 0 + (k : Int))))) = (bkW w o n k).bind (fun s => insW s ((-((k : Int) / 2 + w (2 * o + (k : Int)))) % n) (w (2 * o + (k : Int))))
    rw [ih, show 2 * (0 : Int) + (k : Int) = (k : Int) by omega]
theorem pl_sh {w : Int → Int} {o n : Int} : plW (fun j => w (2 * o + j)) 0 n ↔ plW w o n := by
  constructor
  · intro h b b0 b1
    have := h b b0 b1
    rw [show 2 * (o + b) + 1 = 2 * o + (2 * (0 + b) + 1) by omega]
    exact this
  · intro h b b0 b1
    have := h b b0 b1
    show w (2 * o + (2 * (0 + b) + 1)) = 0
    rw [show 2 * o + (2 * (0 + b) + 1) = 2 * (o + b) + 1 by omega]
    exact this
/-- what a bracket does, seen from the whole -/
theorem Ch_up {a K d o m : Int} {w v : Int → Int} (h : ChI a d (fun j => w (2 * o + j)) m v) (hK : (a = 40 ∧ K = 0) ∨ (a ≠ 40 ∧ K = a)) (ho : 0 ≤ o) (hm : 0 < m) : ∃ w1, ChW K d w o m w1 ∧ (∀ j : Int, j < 2 * o → w1 j = w j) ∧ ∀ j : Int, 0 ≤ j → j < 2 * m → w1 (2 * o + j) = v j := by
  have pw : ∀ s : Int → Int, (∀ j : Int, j < 2 * o → putW w s o m j = w j) ∧ ∀ j : Int, 0 ≤ j → j < 2 * m → putW w s o m (2 * o + j) = s j := fun s => by
    refine ⟨fun j j1 => if_neg (by omega), fun j j0 j1 => ?_⟩
    unfold putW
    rw [if_pos (by omega), show 2 * o + j - 2 * o = j by omega]
  rcases h with ⟨h1, h2⟩ | ⟨h1, h2⟩ | ⟨h1, h2⟩ | ⟨h1, h2, h3⟩ | ⟨h1, h2⟩
  · exact ⟨w, Or.inl ⟨by omega, rfl⟩, fun _ _ => rfl, fun j _ _ => by rw [h2]⟩
  · exact ⟨w, Or.inr (Or.inl ⟨by omega, rfl⟩), fun _ _ => rfl, fun j _ _ => by rw [h2]⟩
  · rw [bk_sh] at h2
    exact ⟨_, Or.inr (Or.inr (Or.inl ⟨by omega, v, h2, rfl⟩)), (pw v).1, (pw v).2⟩
  · refine ⟨_, Or.inr (Or.inr (Or.inr (Or.inl ⟨by omega, pl_sh.mp h2, rfl⟩))), (pw _).1, fun j j0 j1 => ?_⟩
    rw [(pw _).2 j j0 j1, h3]
    show (if j % 2 = 1 then 0 else 9 - w (2 * (o + (-(j / 2)) % m))) = (if j % 2 = 1 then 0 else 9 - w (2 * o + 2 * ((-(j / 2)) % m)))
    rw [show 2 * (o + (-(j / 2)) % m) = 2 * o + 2 * ((-(j / 2)) % m) by omega]
  · refine ⟨_, Or.inr (Or.inr (Or.inr (Or.inr ⟨by omega, rfl⟩))), (pw _).1, fun j j0 j1 => ?_⟩
    rw [(pw _).2 j j0 j1, h2]
    show w (2 * (o + (j / 2 + d) % m) + j % 2) = w (2 * o + (2 * ((j / 2 + d) % m) + j % 2))
    rw [show 2 * (o + (j / 2 + d) % m) + j % 2 = 2 * o + (2 * ((j / 2 + d) % m) + j % 2) by omega]
theorem Ch_upF {a K o m : Int} {w : Int → Int} (h : ChIF a (fun j => w (2 * o + j)) m) (hK : (a = 40 ∧ K = 0) ∨ (a ≠ 40 ∧ K = a)) : ChF K w o m := by
  rcases h with ⟨h1, h2⟩ | ⟨h1, h2⟩
  · rw [bk_sh] at h2
    exact Or.inl ⟨by omega, h2⟩
  · exact Or.inr ⟨by omega, fun q => h2 (pl_sh.mpr q)⟩
/-- a bracket ends -/
theorem L_close {cI : ClassId} {jn : Nat} {g lv : Nat → Nat} {S : Sg} {f f1 : Nat → va_E} {ks vs : Nat → Int} {E : Env1} {i : Nat} {d top top2 one may a K D : Int} {w w2 v st op dg st2 op2 dg2 : Int → Int}
    (hs2 : ∀ b : Int, 0 ≤ b → b < top2 → Srt w2 b) (hfr : ∀ (top1 : Int) (w1 : Int → Int), (∀ j : Int, 0 ≤ j → j < 2 * st d → w1 j = w j) → st d ≤ top1 → (∀ b : Int, 0 ≤ b → b < top1 → Srt w1 b) → MSb cI jn g lv S f1 d top1 w1 st op dg)
    (hw2 : ∀ j : Int, 0 ≤ j → j < 2 * top → w2 j = w j) (h0 : 0 ≤ st d) (hd0 : 0 ≤ d) (htop : st d ≤ top) (htt : top < top2) (hk : ks i = 41) (hst1 : st2 d = st d) (hst2 : st2 (d + 1) = top) (hop : op2 d = K) (hdg : dg2 d = D) (hK : (a = 40 ∧ K = 0) ∨ (a ≠ 40 ∧ K = a)) (hc : top2 - st d ≤ 24) (hch : ChI a D (fun j => w2 (2 * top + j)) (top2 - top) v)
    (hr : RWf cI jn S f1 (lv d.toNat) (top - st d + (top2 - top)) (fun j => if j < 2 * (top - st d) then (fun j => w2 (2 * st d + j)) j else v (j - 2 * (top - st d)))) :
    ∃ w3, Sqp ks vs E (i, d + 1, top2, one, may, 1, w2, st2, op2, dg2) (i + 1, d, top2, top, 1, 1, w3, st2, op2, dg2) ∧ MSt cI jn g lv S f1 d top2 w3 st op dg ∧ ∀ j : Int, 0 ≤ j → j < 2 * st d → w3 j = w j := by
  obtain ⟨w3, c1, c2, c3⟩ := Ch_up hch hK (by omega) (by omega)
  have hag : ∀ j : Int, 0 ≤ j → j < 2 * st d → w3 j = w j := fun j j0 j1 => by rw [c2 j (by omega)]; exact hw2 j j0 (by omega)
  have hsr := Ch_srt c1 (by omega) (by omega) (fun b b0 b1 => hs2 b b0 (by omega))
  refine ⟨w3, ?_, ⟨hfr _ _ hag (by omega) (fun b b0 b1 => hsr b b0 (by omega)), by omega, ?_⟩, hag⟩
  · unfold Sqp
    dsimp only
    refine Or.inr (Or.inl ⟨fun q => by omega, ⟨rfl, hk, by omega⟩, ?_, w3, ?_, ?_⟩)
    · rw [show d + 1 - 1 = d by omega, hst1]; exact hc
    · rw [show d + 1 - 1 = d by omega, hop, hdg, hst2]; exact c1
    · rw [show d + 1 - 1 = d by omega, hst2]
  · rw [show top2 - st d = top - st d + (top2 - top) by omega]
    refine RWf_c hr (fun k k0 k1 => ?_)
    show (if k < 2 * (top - st d) then w2 (2 * st d + k) else v (k - 2 * (top - st d))) = w3 (2 * st d + k)
    by_cases e : k < 2 * (top - st d)
    · rw [if_pos e, c2 _ (by omega)]
    · rw [if_neg e, ← c3 (k - 2 * (top - st d)) (by omega) (by omega)]
      congr 1
      omega
/-- stuck: nothing begins there -/
theorem L_none {ks vs : Nat → Int} {E : Env1} {i : Nat} {d top one : Int} {w st op dg : Int → Int} (h : ¬ (ks i = 1 ∨ ks i = 2 ∨ ks i = 91 ∨ ks i = 40 ∨ (7 ≤ ks i ∧ ks i ≤ 10))) : Fls ks vs E (i, d, top, one, 0, 0, w, st, op, dg) := by
  refine ⟨_, Go_rf, ?_, fun c q => ?_⟩
  · unfold Dne
    dsimp only
    omega
  · unfold Sqp at q
    dsimp only at q
    rcases q with ⟨h1, _⟩ | ⟨_, h2, _⟩ | ⟨_, _, h3, h4⟩ | ⟨_, h2, _⟩ | ⟨_, h2, _⟩
    · omega
    · omega
    · rcases h4 with ⟨k1, _⟩ | ⟨k1, k2, _⟩ | ⟨k1, k2, k3, _⟩ <;> omega
    · omega
    · omega
/-- stuck: a bracket that isn't ended -/
theorem L_open_F {ks vs : Nat → Int} {E : Env1} {i : Nat} {d top one may : Int} {w st op dg : Int → Int} (h : ¬ (ks i = 1 ∨ ks i = 2 ∨ ks i = 91 ∨ ks i = 40 ∨ (7 ≤ ks i ∧ ks i ≤ 10))) (hm : ¬ (may = 1 ∧ ks i = 42)) (hk : ks i ≠ 41) (hd : 0 < d) : Fls ks vs E (i, d, top, one, may, 1, w, st, op, dg) := by
  refine ⟨_, Go_rf, ?_, fun c q => ?_⟩
  · unfold Dne
    dsimp only
    omega
  · unfold Sqp at q
    dsimp only at q
    rcases q with ⟨h1, _⟩ | ⟨_, h2, _⟩ | ⟨_, _, h3, h4⟩ | ⟨_, h2, _⟩ | ⟨_, h2, _⟩
    · exact hm h1
    · omega
    · rcases h4 with ⟨k1, _⟩ | ⟨k1, k2, _⟩ | ⟨k1, k2, k3, _⟩ <;> omega
    · omega
    · omega
theorem TKm_end {cI : ClassId} {g : Nat → Nat} {ks vs : Nat → Int} {f : Nat → va_E} {i : Nat} (h : TKm cI g ks vs f i) (hi : 300 ≤ i) : ks i = 0 := by
  obtain ⟨a1, a2, a3, a4, a5, a6, b1, b2, q1, q2, q3, q4⟩ := h
  exact q4.2.2.2.2.2.2 i (by omega)
theorem th_lt {ks : Nat → Int} {i : Nat} : i < thN ks i := by
  unfold thN
  by_cases e : ks (i + 1) = 4
  · rw [if_pos e]; omega
  · rw [if_neg e]; omega
theorem Bt_lt {ks vs : Nat → Int} {i j : Nat} {a b : Int} (h : BtR ks vs i a b j) : i < j := by
  have t1 := th_lt (ks := ks) (i := i)
  have t2 := th_lt (ks := ks) (i := i + 1)
  have t3 := th_lt (ks := ks) (i := thN ks (i + 1))
  rcases h with h | h
  · have := h.2.2.2.2; omega
  · have := h.2.2.2.2.1; omega
theorem Bt_vK {ks vs : Nat → Int} {i j : Nat} {a b : Int} (hK : KO ks vs) (h : BtR ks vs i a b j) : b ≤ a ∧ 0 ≤ b ∧ a ≤ 9 := by
  unfold BtR at h
  rcases h with ⟨_, h2, h3, h4, _⟩ | ⟨_, h2, h3, _, _, h4⟩
  · have := (hK i).2.1 h2.1
    omega
  · have t1 := (hK (i + 1)).2.1 h2.1
    have t2 := (hK (thN ks (i + 1))).2.1 h3.1
    omega
