/-- cells 0 .. N with a throw -/
def Th (w : Int → Int) (N t : Int) : Prop := 0 ≤ t ∧ t < N ∧ w t ≠ 0
/-- a step from throw to throw, no two to one -/
def Bj (w : Int → Int) (N : Int) (s : Int → Int) : Prop := (∀ t, Th w N t → Th w N (s t)) ∧ ∀ a b, Th w N a → Th w N b → s a = s b → a = b
/-- what holds along the steps -/
def Iv (w : Int → Int) (N : Int) (s : Int → Int) (Q : Int → Prop) : Prop := ∀ t, Th w N t → (Q t ↔ Q (s t))
/-- how many cells bear a number -/
def clb (L : Int → Int) : Nat → Int
  | 0 => 0
  | m + 1 => clb L m + (if 0 ≤ L (m : Int) then 1 else 0)
theorem clb_b (L : Int → Int) (m : Nat) : 0 ≤ clb L m ∧ clb L m ≤ (m : Int) := by
  induction m with
  | zero => exact ⟨Int.le_refl _, Int.le_refl _⟩
  | succ m ih =>
    show 0 ≤ clb L m + (if 0 ≤ L (m : Int) then 1 else 0) ∧ clb L m + (if 0 ≤ L (m : Int) then 1 else 0) ≤ ((m + 1 : Nat) : Int)
    by_cases e : 0 ≤ L (m : Int)
    · rw [if_pos e]; omega
    · rw [if_neg e]; omega
theorem clb_u {L L1 : Int → Int} {u : Int} (m : Nat) (hu : 0 ≤ u) (h0 : L u < 0) (h1 : 0 ≤ L1 u) (ho : ∀ v : Int, v ≠ u → L1 v = L v) : clb L1 m = clb L m + (if u < (m : Int) then 1 else 0) := by
  induction m with
  | zero => rw [if_neg (by omega)]; rfl
  | succ m ih =>
    show clb L1 m + (if 0 ≤ L1 (m : Int) then 1 else 0) = clb L m + (if 0 ≤ L (m : Int) then 1 else 0) + _
    rw [ih]
    by_cases e : u = (m : Int)
    · rw [← e, if_neg (show ¬ u < u by omega), if_pos h1, if_neg (show ¬ 0 ≤ L u by omega), if_pos (show u < ((m + 1 : Nat) : Int) by omega)]
    · rw [ho (m : Int) (fun q => e q.symm)]
      by_cases q : u < (m : Int)
      · rw [if_pos q, if_pos (show u < ((m + 1 : Nat) : Int) by omega)]; omega
      · rw [if_neg q, if_neg (show ¬ u < ((m + 1 : Nat) : Int) by omega)]; omega
/-- numbers given as far as the cells below T -/
def LabP (w : Int → Int) (N : Int) (s : Int → Int) (T : Int) (L : Int → Int) (cnt : Int) : Prop := 0 ≤ cnt ∧ (∀ t, Th w N t → L (s t) = L t) ∧ (∀ t, 0 ≤ t → t < N → -1 ≤ L t ∧ L t < cnt ∧ (0 ≤ L t → w t ≠ 0)) ∧ (∀ t, Th w N t → t < T → 0 ≤ L t) ∧ (∀ a b, Th w N a → Th w N b → 0 ≤ L a → L a = L b → ∀ Q : Int → Prop, Iv w N s Q → Q a → Q b) ∧ ∃ fc : Int → Int, ∀ c : Int, 0 ≤ c → c < cnt → Th w N (fc c) ∧ fc c < T ∧ L (fc c) = c ∧ (∀ t, Th w N t → L t = c → fc c ≤ t) ∧ ∀ d : Int, 0 ≤ d → d < c → fc d < fc c
/-- a cycle is followed from T: u is the cell to come -/
def LabI (w : Int → Int) (N : Int) (s : Int → Int) (T : Int) (L : Int → Int) (cnt : Int) (L1 : Int → Int) (u : Int) : Prop := (∀ v, 0 ≤ v → v < N → L1 v = L v ∨ (L v = -1 ∧ L1 v = cnt ∧ Th w N v)) ∧ (∀ v, Th w N v → L1 v = cnt → ∀ Q : Int → Prop, Iv w N s Q → (Q T ↔ Q v)) ∧ (Th w N u ∧ L u = -1 ∧ ∀ Q : Int → Prop, Iv w N s Q → (Q T ↔ Q u)) ∧ (∀ v, Th w N v → L1 v = cnt → v ≠ T → ∃ p, Th w N p ∧ L1 p = cnt ∧ s p = v) ∧ (∀ v, Th w N v → L1 v = cnt → L1 (s v) = cnt ∨ s v = u) ∧ (((∀ v, Th w N v → L1 v ≠ cnt) ∧ u = T) ∨ ∃ p, Th w N p ∧ L1 p = cnt ∧ s p = u) ∧ (L1 u = cnt → u = T)
theorem LabI_0 {w : Int → Int} {N : Int} {s : Int → Int} {T : Int} {L : Int → Int} {cnt : Int} (h : LabP w N s T L cnt) (hT : Th w N T) (hL : L T = -1) : LabI w N s T L cnt L T := by
  obtain ⟨h0, h1, h2, h3, h4, h5⟩ := h
  have hn : ∀ v, Th w N v → L v ≠ cnt := fun v hv => by have := (h2 v hv.1 hv.2.1).2.1; omega
  exact ⟨fun v _ _ => Or.inl rfl, fun v hv e => absurd e (hn v hv), ⟨hT, hL, fun Q _ => Iff.rfl⟩, fun v hv e => absurd e (hn v hv), fun v hv e => absurd e (hn v hv), Or.inl ⟨hn, rfl⟩, fun _ => rfl⟩
theorem LabI_s {w : Int → Int} {N : Int} {s : Int → Int} {T : Int} {L L1 L2 : Int → Int} {cnt u : Int} (h0 : LabP w N s T L cnt) (hB : Bj w N s) (h : LabI w N s T L cnt L1 u) (hu : L1 u ≠ cnt) (e1 : L2 u = cnt) (e2 : ∀ v, v ≠ u → L2 v = L1 v) : LabI w N s T L cnt L2 (s u) := by
  obtain ⟨a1, a2, ⟨a3, a4, a5⟩, a6, a7, a8, a9⟩ := h
  have hLs : L (s u) = -1 := by rw [h0.2.1 u a3]; exact a4
  have new : ∀ v, Th w N v → (L2 v = cnt ↔ (L1 v = cnt ∨ v = u)) := fun v hv => by
    by_cases e : v = u
    · rw [e, e1]; exact ⟨fun _ => Or.inr rfl, fun _ => rfl⟩
    · rw [e2 v e]; exact ⟨fun q => Or.inl q, fun q => q.resolve_right e⟩
  have hsu := hB.1 u a3
  refine ⟨fun v v0 v1 => ?_, fun v hv q Q hQ => ?_, ⟨hsu, hLs, fun Q hQ => (a5 Q hQ).trans (hQ u a3)⟩, fun v hv q hne => ?_, fun v hv q => ?_, Or.inr ⟨u, a3, e1, rfl⟩, fun q => ?_⟩
  · by_cases e : v = u
    · rw [e]; exact Or.inr ⟨a4, e1, a3⟩
    · rw [e2 v e]; exact a1 v v0 v1
  · rcases (new v hv).mp q with q | q
    · exact a2 v hv q Q hQ
    · rw [q]; exact a5 Q hQ
  · rcases (new v hv).mp q with q | q
    · obtain ⟨p, p1, p2, p3⟩ := a6 v hv q hne
      exact ⟨p, p1, (new p p1).mpr (Or.inl p2), p3⟩
    · rcases a8 with ⟨_, a8⟩ | ⟨p, p1, p2, p3⟩
      · exact absurd (q.trans a8) hne
      · exact ⟨p, p1, (new p p1).mpr (Or.inl p2), by rw [p3, q]⟩
  · rcases (new v hv).mp q with q | q
    · rcases a7 v hv q with r | r
      · exact Or.inl ((new _ (hB.1 v hv)).mpr (Or.inl r))
      · exact Or.inl (by rw [r]; exact e1)
    · exact Or.inr (by rw [q])
  · rcases (new _ hsu).mp q with q | q
    · by_cases e : s u = T
      · exact e
      · obtain ⟨p, p1, p2, p3⟩ := a6 (s u) hsu q e
        have := hB.2 p u p1 a3 p3
        rw [this] at p2
        exact absurd p2 hu
    · rcases a8 with ⟨_, a8⟩ | ⟨p, p1, p2, p3⟩
      · rw [q]; exact a8
      · have := hB.2 p u p1 a3 (by rw [p3, q])
        rw [this] at p2
        exact absurd p2 hu
theorem LabI_e {w : Int → Int} {N : Int} {s : Int → Int} {T : Int} {L L1 : Int → Int} {cnt u : Int} (h0 : LabP w N s T L cnt) (hB : Bj w N s) (h : LabI w N s T L cnt L1 u) (hu : L1 u = cnt) (hT : Th w N T) (hLT : L T = -1) : LabP w N s (T + 1) L1 (cnt + 1) := by
  obtain ⟨b0, b1, b2, b3, b4, fc, b5⟩ := h0
  obtain ⟨a1, a2, ⟨a3, a4, a5⟩, a6, a7, a8, a9⟩ := h
  have eu := a9 hu
  subst eu
  have ncl : ∀ v, Th w N v → L1 v = cnt → L1 (s v) = cnt := fun v hv q => (a7 v hv q).elim id (fun r => by rw [r]; exact hu)
  have ncb : ∀ v, Th w N v → L1 (s v) = cnt → L1 v = cnt := fun v hv q => by
    by_cases e : s v = u
    · rcases a8 with ⟨a8, _⟩ | ⟨p, p1, p2, p3⟩
      · exact absurd hu (a8 u a3)
      · rw [hB.2 v p hv p1 (by rw [e, p3])]; exact p2
    · obtain ⟨p, p1, p2, p3⟩ := a6 (s v) (hB.1 v hv) q e
      rw [hB.2 v p hv p1 p3.symm]; exact p2
  have old : ∀ v, 0 ≤ v → v < N → L1 v ≠ cnt → L1 v = L v := fun v v0 v1 q => (a1 v v0 v1).elim id (fun r => absurd r.2.1 q)
  have ob : ∀ v, 0 ≤ v → v < N → L v ≠ cnt := fun v v0 v1 => by have := (b2 v v0 v1).2.1; omega
  have lab : ∀ v, Th w N v → 0 ≤ L v → L1 v = L v := fun v hv q => (a1 v hv.1 hv.2.1).elim id (fun r => by have := r.1; omega)
  refine ⟨by omega, fun t ht => ?_, fun t t0 t1 => ?_, fun t ht t1 => ?_, fun a b ha hb q0 q Q hQ qa => ?_, (fun c => if c = cnt then u else fc c), fun c c0 c1 => ?_⟩
  · by_cases q : L1 t = cnt
    · rw [q]; exact ncl t ht q
    · have hs := hB.1 t ht
      rw [old t ht.1 ht.2.1 q, old (s t) hs.1 hs.2.1 (fun r => q (ncb t ht r))]
      exact b1 t ht
  · rcases a1 t t0 t1 with r | r
    · rw [r]; have := b2 t t0 t1; exact ⟨this.1, by omega, this.2.2⟩
    · rw [r.2.1]; exact ⟨by omega, by omega, fun _ => r.2.2.2.2⟩
  · by_cases e : t = u
    · rw [e, hu]; exact b0
    · rw [lab t ht (b3 t ht (by omega))]; exact b3 t ht (by omega)
  · by_cases qn : L1 a = cnt
    · have qb : L1 b = cnt := by rw [← q]; exact qn
      exact (a2 b hb qb Q hQ).mp ((a2 a ha qn Q hQ).mpr qa)
    · have qb : L1 b ≠ cnt := by rw [← q]; exact qn
      rw [old a ha.1 ha.2.1 qn] at q q0
      rw [old b hb.1 hb.2.1 qb] at q
      exact b4 a b ha hb q0 q Q hQ qa
  · dsimp only
    by_cases e : c = cnt
    · rw [if_pos e]
      refine ⟨hT, by omega, by rw [e]; exact hu, fun t ht q => ?_, fun d d0 d1 => ?_⟩
      · by_cases r : t < u
        · have h1 := b3 t ht r
          have h2 := lab t ht h1
          have h3 := ob t ht.1 ht.2.1
          omega
        · omega
      · rw [if_neg (by omega)]
        exact (b5 d d0 (by omega)).2.1
    · rw [if_neg e]
      obtain ⟨f1, f2, f3, f4, f5⟩ := b5 c c0 (by omega)
      refine ⟨f1, by omega, by rw [lab _ f1 (by omega)]; exact f3, fun t ht q => f4 t ht ?_, fun d d0 d1 => ?_⟩
      · rw [← old t ht.1 ht.2.1 (by omega)]; exact q
      · rw [if_neg (by omega)]; exact f5 d d0 d1
theorem LabP_n {w : Int → Int} {N : Int} {s : Int → Int} {T : Int} {L : Int → Int} {cnt : Int} (h : LabP w N s T L cnt) (ht : 0 ≤ T ∧ T < N → w T ≠ 0 → 0 ≤ L T) : LabP w N s (T + 1) L cnt := by
  obtain ⟨b0, b1, b2, b3, b4, fc, b5⟩ := h
  refine ⟨b0, b1, b2, fun t h9 t1 => ?_, b4, fc, fun c c0 c1 => ?_⟩
  · by_cases e : t = T
    · rw [e] at h9 ⊢; exact ht ⟨h9.1, h9.2.1⟩ h9.2.2
    · exact b3 t h9 (by omega)
  · obtain ⟨f1, f2, f3⟩ := b5 c c0 c1
    exact ⟨f1, by omega, f3⟩
theorem LabP_0 {w : Int → Int} {N : Int} {s : Int → Int} : LabP w N s 0 (fun _ => -1) 0 := ⟨Int.le_refl _, fun _ _ => rfl, fun t _ _ => ⟨Int.le_refl _, (show (-1 : Int) < 0 by decide), fun q => absurd q (show ¬ (0 : Int) ≤ -1 by decide)⟩, fun t ht q => absurd q (by have := ht.1; omega), fun a b _ _ q => absurd q (show ¬ (0 : Int) ≤ -1 by decide), fun _ => 0, fun c c0 c1 => absurd c1 (by omega)⟩
/-- the numbers are one another's -/
theorem LabP_u {w : Int → Int} {N : Int} {s : Int → Int} {L M : Int → Int} {cl cm : Int} (h : LabP w N s N L cl) (h' : LabP w N s N M cm) : cl = cm ∧ ∀ t, Th w N t → L t = M t := by
  obtain ⟨a0, a1, a2, a3, a4, fc, a5⟩ := h
  obtain ⟨b0, b1, b2, b3, b4, gc, b5⟩ := h'
  have la : ∀ t, Th w N t → 0 ≤ L t := fun t ht => a3 t ht ht.2.1
  have lb : ∀ t, Th w N t → 0 ≤ M t := fun t ht => b3 t ht ht.2.1
  have ab : ∀ a b, Th w N a → Th w N b → L a = L b → M a = M b := fun a b ha hb q => by
    have := a4 a b ha hb (la a ha) q (fun t => M t = M a) (fun t ht => by show M t = M a ↔ M (s t) = M a; rw [b1 t ht]) rfl
    exact this.symm
  have ba : ∀ a b, Th w N a → Th w N b → M a = M b → L a = L b := fun a b ha hb q => by
    have := b4 a b ha hb (lb a ha) q (fun t => L t = L a) (fun t ht => by show L t = L a ↔ L (s t) = L a; rw [a1 t ht]) rfl
    exact this.symm
  have key : ∀ m : Nat, (m : Int) < cl → (m : Int) < cm ∧ fc m = gc m ∧ M (fc m) = m := by
    intro m
    induction m using Nat.strongRecOn with
    | _ m ih =>
      intro hm
      obtain ⟨f1, f2, f3, f4, f5⟩ := a5 m (by omega) hm
      have hk := (b2 (fc m) f1.1 f1.2.1).2.1
      have hk0 := lb _ f1
      obtain ⟨g1, g2, g3, g4, g5⟩ := b5 (M (fc m)) hk0 hk
      have e1 : gc (M (fc m)) = fc m := by
        have q1 := g4 (fc m) f1 rfl
        have q2 := f4 (gc (M (fc m))) g1 ((ba _ _ g1 f1 g3).trans f3)
        omega
      have ge : (m : Int) ≤ M (fc m) := by
        rcases (show M (fc m) < (m : Int) ∨ (m : Int) ≤ M (fc m) by omega) with q | q
        · obtain ⟨i1, i2, i3⟩ := ih (M (fc m)).toNat (by omega) (by omega)
          rw [show (((M (fc m)).toNat : Nat) : Int) = M (fc m) by omega] at i2 i3
          have := f5 (M (fc m)) hk0 q
          rw [i2, e1] at this
          omega
        · exact q
      have lt : (m : Int) < cm := by omega
      obtain ⟨k1, k2, k3, k4, k5⟩ := b5 m (by omega) lt
      have kl := (a2 (gc m) k1.1 k1.2.1).2.1
      have kl0 := la _ k1
      have e2 : fc (L (gc m)) = gc m := by
        obtain ⟨q1, q2, q3, q4, q5⟩ := a5 (L (gc m)) kl0 kl
        have r1 := q4 (gc m) k1 rfl
        have r2 := k4 (fc (L (gc m))) q1 ((ab _ _ q1 k1 q3).trans k3)
        omega
      have ge2 : (m : Int) ≤ L (gc m) := by
        rcases (show L (gc m) < (m : Int) ∨ (m : Int) ≤ L (gc m) by omega) with q | q
        · obtain ⟨i1, i2, i3⟩ := ih (L (gc m)).toNat (by omega) (by omega)
          rw [show (((L (gc m)).toNat : Nat) : Int) = L (gc m) by omega] at i2 i3
          rw [e2, k3] at i3
          omega
        · exact q
      have le1 : gc m ≤ fc m := by
        rcases (show (m : Int) < M (fc m) ∨ (m : Int) = M (fc m) by omega) with q | q
        · have := g5 m (by omega) q; rw [e1] at this; omega
        · rw [← q] at e1; omega
      have le2 : fc m ≤ gc m := by
        rcases (show (m : Int) < L (gc m) ∨ (m : Int) = L (gc m) by omega) with q | q
        · have := (a5 (L (gc m)) kl0 kl).2.2.2.2 m (by omega) q; rw [e2] at this; omega
        · rw [← q] at e2; omega
      have e3 : fc m = gc m := by omega
      exact ⟨lt, e3, by rw [e3]; exact k3⟩
  have same : ∀ t, Th w N t → L t = M t := fun t ht => by
    have h1 := la t ht
    have h2 := (a2 t ht.1 ht.2.1).2.1
    obtain ⟨k1, k2, k3⟩ := key (L t).toNat (by omega)
    rw [show (((L t).toNat : Nat) : Int) = L t by omega] at k2 k3
    obtain ⟨f1, f2, f3, f4, f5⟩ := a5 (L t) h1 h2
    rw [← k3]
    exact ab _ _ f1 ht f3
  refine ⟨?_, same⟩
  rcases Int.lt_trichotomy cl cm with q | q | q
  · obtain ⟨g1, g2, g3, g4, g5⟩ := b5 cl a0 q
    have h1 := (a2 (gc cl) g1.1 g1.2.1).2.1
    have h2 := same _ g1
    omega
  · exact q
  · have := (key cm.toNat (by omega)).1
    omega
/-- forward or backward: the same numbers -/
theorem LabP_i {w : Int → Int} {N : Int} {s r : Int → Int} {T : Int} {L : Int → Int} {cnt : Int} (h : LabP w N r T L cnt) (hs : ∀ t, Th w N t → Th w N (s t)) (h1 : ∀ t, Th w N t → r (s t) = t) (hr : ∀ t, Th w N t → Th w N (r t)) (h2 : ∀ t, Th w N t → s (r t) = t) : LabP w N s T L cnt := by
  obtain ⟨b0, b1, b2, b3, b4, b5⟩ := h
  refine ⟨b0, fun t ht => ?_, b2, b3, fun a b ha hb q0 q Q hQ qa => b4 a b ha hb q0 q Q (fun t ht => ?_) qa, b5⟩
  · have := b1 (s t) (hs t ht)
    rw [h1 t ht] at this
    exact this.symm
  · have := hQ (r t) (hr t ht)
    rw [h2 t ht] at this
    exact this.symm
