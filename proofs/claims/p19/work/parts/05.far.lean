/-! how far: the reference's search back from a state -/
def dl (to n s : Nat) : Prop := ∃ hs, jrun s hs = some to ∧ hs.length = n
def FI (to : Nat) (far : Nat → Int32) (d : Nat) : Prop := ∀ s, s < 512 → (far s = -1 ∧ ∀ m, m ≤ d → ¬ dl to m s) ∨ (∃ m, m ≤ d ∧ far s = nI m ∧ dl to m s ∧ ∀ m', m' < m → ¬ dl to m' s)
def mkd (far : Nat → Int32) (d s : Nat) : Prop := far s = -1 ∧ ∃ h t, stp s h = some t ∧ far t = nI d
def FF (to : Nat) (far : Nat → Int32) : Prop := ∀ s, s < 512 → (far s = -1 ∧ ∀ m, ¬ dl to m s) ∨ (∃ m, m < 512 ∧ far s = nI m ∧ dl to m s ∧ ∀ m', m' < m → ¬ dl to m' s)
theorem dl_0 {to s : Nat} : dl to 0 s ↔ s = to := by
  refine ⟨fun ⟨hs, e, n⟩ => ?_, fun e => ⟨[], by rw [e]; rfl, rfl⟩⟩
  cases hs with
  | nil => cases e; rfl
  | cons a as => simp at n
theorem dl_s {to n s : Nat} : dl to (n + 1) s ↔ ∃ h t, stp s h = some t ∧ dl to n t := by
  constructor
  · rintro ⟨hs, e, l⟩
    cases hs with
    | nil => simp at l
    | cons a as =>
      obtain ⟨u, e1, e2⟩ := jrun_cons e
      exact ⟨a, u, e1, as, e2, by simpa using l⟩
  · rintro ⟨h, t, e, hs, e1, l⟩
    exact ⟨h :: hs, by simp [jrun, e, e1], by simp [l]⟩
theorem FI.init {to : Nat} {b : Nat → Int32} (hb : ∀ t, t < 512 → b t = -1) : FI to (upd b to 0) 0 := by
  intro s hs
  by_cases e : s = to
  · subst e
    exact Or.inr ⟨0, Nat.le_refl 0, by rw [pk_us, nI_0], dl_0.mpr rfl, fun m' h => by omega⟩
  · exact Or.inl ⟨by rw [pk_un e]; exact hb s hs, fun m hm z => by
      have : m = 0 := by omega
      subst this
      exact e (dl_0.mp z)⟩
theorem FI.near {to : Nat} {far : Nat → Int32} {d s h t : Nat} (F : FI to far d) (hs : s < 512) (e1 : ∀ m, m ≤ d → ¬ dl to m s) (e : stp s h = some t) (z : dl to d t) : far t = nI d := by
  rcases F t (stp_lt hs e) with ⟨-, n⟩ | ⟨m, m1, m2, m3, m4⟩
  · exact absurd z (n d (Nat.le_refl d))
  · by_cases q : m = d
    · rw [← q]; exact m2
    · exact absurd (dl_s.mpr ⟨h, t, e, m3⟩) (e1 (m + 1) (by omega))
theorem FI.step {to : Nat} {far far' : Nat → Int32} {d : Nat} (F : FI to far d) (hd : d < 2 ^ 30) (h1 : ∀ s, s < 512 → mkd far d s → far' s = nI (d + 1)) (h2 : ∀ s, s < 512 → ¬ mkd far d s → far' s = far s) : FI to far' (d + 1) := by
  intro s hs
  by_cases q : mkd far d s
  · right
    obtain ⟨e0, h, t, e1, e2⟩ := q
    have hnot : ∀ m, m ≤ d → ¬ dl to m s := by
      rcases F s hs with ⟨-, n⟩ | ⟨m, m1, m2, -⟩
      · exact n
      · exact absurd (m2.symm.trans e0) (nI_m1 (by omega))
    refine ⟨d + 1, Nat.le_refl _, h1 s hs ⟨e0, h, t, e1, e2⟩, ?_, fun m' hm' => hnot m' (by omega)⟩
    refine dl_s.mpr ⟨h, t, e1, ?_⟩
    rcases F t (stp_lt hs e1) with ⟨z, -⟩ | ⟨m, m1, m2, m3, -⟩
    · exact absurd (e2.symm.trans z) (nI_m1 (by omega))
    · have : m = d := (nI_eq (by omega) (by omega)).mp (m2.symm.trans e2)
      rw [← this]; exact m3
  · rw [h2 s hs q]
    rcases F s hs with ⟨e0, n⟩ | ⟨m, m1, m2, m3, m4⟩
    · left
      refine ⟨e0, fun m hm z => ?_⟩
      by_cases y : m = d + 1
      · subst y
        obtain ⟨h, t, e1, z1⟩ := dl_s.mp z
        exact q ⟨e0, h, t, e1, F.near hs n e1 z1⟩
      · exact n m (by omega) z
    · exact Or.inr ⟨m, by omega, m2, m3, m4⟩
theorem FI.done {to : Nat} {far : Nat → Int32} {d : Nat} (F : FI to far d) (hd : d < 512) (hn : ∀ s, s < 512 → ¬ mkd far d s) : FF to far := by
  intro s hs
  rcases F s hs with ⟨e0, n⟩ | ⟨m, m1, m2, m3, m4⟩
  · left
    refine ⟨e0, ?_⟩
    -- the least number of steps of any state that was not reached
    refine fun m z => ?_
    obtain ⟨k, ⟨s1, hs1, f1, z1⟩, least⟩ := pk_least (fun k => ∃ s, s < 512 ∧ far s = -1 ∧ dl to k s) ⟨m, s, hs, e0, z⟩
    have hk : d < k := by
      rcases F s1 hs1 with ⟨-, n1⟩ | ⟨m', m1, m2, -⟩
      · exact Nat.lt_of_not_le fun q => n1 k q z1
      · exact absurd (m2.symm.trans f1) (nI_m1 (by omega))
    obtain ⟨k0, rfl⟩ : ∃ k0, k = k0 + 1 := ⟨k - 1, by omega⟩
    obtain ⟨h, t, e1, z2⟩ := dl_s.mp z1
    have ht := stp_lt hs1 e1
    rcases F t ht with ⟨ft, -⟩ | ⟨m', c1, c2, c3, -⟩
    · exact least k0 (by omega) ⟨t, ht, ft, z2⟩
    · have z3 : dl to (m' + 1) s1 := dl_s.mpr ⟨h, t, e1, c3⟩
      have : ¬ m' + 1 < k0 + 1 := fun q => least (m' + 1) q ⟨s1, hs1, f1, z3⟩
      have : m' = d := by omega
      subst this
      exact hn s1 hs1 ⟨f1, h, t, e1, c2⟩
  · exact Or.inr ⟨m, by omega, m2, m3, m4⟩
theorem cntM_mono {b b' : Nat → Int32} {n : Nat} (h : ∀ t, t < n → ¬ b t = -1 → ¬ b' t = -1) : cntM b n ≤ cntM b' n := by
  induction n with
  | zero => exact Nat.le_refl 0
  | succ n ih =>
    show cntM b n + _ ≤ cntM b' n + _
    have := ih (fun t q => h t (by omega))
    by_cases q : b n = -1
    · rw [if_pos q]; omega
    · rw [if_neg q, if_neg (h n (by omega) q)]; omega
theorem cntM_more {b b' : Nat → Int32} {n t : Nat} (h : ∀ t, t < n → ¬ b t = -1 → ¬ b' t = -1) (ht : t < n) (e : b t = -1) (e' : ¬ b' t = -1) : cntM b n + 1 ≤ cntM b' n := by
  induction n with
  | zero => omega
  | succ n ih =>
    show cntM b n + _ + 1 ≤ cntM b' n + _
    by_cases z : t = n
    · subst z
      have := cntM_mono (b := b) (b' := b') (n := t) (fun t q => h t (by omega))
      rw [if_pos e, if_neg e']
      omega
    · have := ih (fun t q => h t (by omega)) (by omega)
      by_cases q : b n = -1
      · rw [if_pos q]; omega
      · rw [if_neg q, if_neg (h n (by omega) q)]; omega
def isF (far : Nat → Int32) (s h : Nat) : Prop := ∃ t, stp s h = some t ∧ far t = far s - 1
/-- the first height that leads nearer -/
def FirstOk (far : Nat → Int32) (s h : Nat) : Prop := h < 10 ∧ isF far s h ∧ ∀ h', h' < h → ¬ isF far s h'
theorem FirstOk.uniq {far : Nat → Int32} {s h h' : Nat} (a : FirstOk far s h) (b : FirstOk far s h') : h = h' := by
  rcases Nat.lt_trichotomy h h' with q | q | q
  · exact absurd a.2.1 (b.2.2 h q)
  · exact q
  · exact absurd b.2.1 (a.2.2 h' q)
def gr (to : Nat) (far : Nat → Int32) : Nat → List Nat → Prop
  | s, [] => s = to
  | s, h :: hs => FirstOk far s h ∧ ∃ t, t < 512 ∧ stp s h = some t ∧ far t = far s - 1 ∧ gr to far t hs
theorem FF.num {to : Nat} {far : Nat → Int32} (F : FF to far) {s m : Nat} (hs : s < 512) (hm : m < 2 ^ 30) (e : far s = nI m) : dl to m s ∧ (∀ m', m' < m → ¬ dl to m' s) ∧ m < 512 := by
  rcases F s hs with ⟨e0, -⟩ | ⟨k, k1, k2, k3, k4⟩
  · exact absurd (e.symm.trans e0) (nI_m1 (by omega))
  · have : k = m := (nI_eq (by omega) (by omega)).mp (k2.symm.trans e)
    subst this
    exact ⟨k3, k4, k1⟩
theorem FF.of {to : Nat} {far : Nat → Int32} (F : FF to far) {s m : Nat} (hs : s < 512) (z : dl to m s) (n : ∀ m', m' < m → ¬ dl to m' s) : far s = nI m := by
  rcases F s hs with ⟨-, e⟩ | ⟨k, k1, k2, k3, k4⟩
  · exact absurd z (e m)
  · rcases Nat.lt_trichotomy k m with q | q | q
    · exact absurd k3 (n k q)
    · rw [← q]; exact k2
    · exact absurd z (k4 m q)
theorem FF.nx {to : Nat} {far : Nat → Int32} (F : FF to far) {s m h t : Nat} (hs : s < 512) (n : ∀ m', m' < m + 1 → ¬ dl to m' s) (e : stp s h = some t) (z : dl to m t) : far t = nI m :=
  F.of (stp_lt hs e) z (fun m' hm' z' => n (m' + 1) (by omega) (dl_s.mpr ⟨h, t, e, z'⟩))
theorem FF.path {to : Nat} {far : Nat → Int32} (F : FF to far) : ∀ (m s : Nat), s < 512 → m < 512 → far s = nI m → ∃ hs, hs.length = m ∧ gr to far s hs ∧ jrun s hs = some to := by
  intro m
  induction m with
  | zero =>
    intro s hs hm e
    have := dl_0.mp (F.num hs (by omega) e).1
    exact ⟨[], rfl, this, by rw [this]; rfl⟩
  | succ m ih =>
    intro s hs hm e
    obtain ⟨z, n, -⟩ := F.num hs (by omega) e
    obtain ⟨h, t, e1, z1⟩ := dl_s.mp z
    have ep : far s - 1 = nI m := by rw [e]; exact nI_pred m
    have e2 := F.nx hs n e1 z1
    obtain ⟨h0, f0, l0⟩ := pk_least (isF far s) ⟨h, t, e1, by rw [ep]; exact e2⟩
    obtain ⟨t0, e3, e4⟩ := f0
    obtain ⟨hs0, g1, g2, g3⟩ := ih t0 (stp_lt hs e3) (by omega) (by rw [e4, ep])
    exact ⟨h0 :: hs0, by simp [g1], ⟨⟨stp_h e3, ⟨t0, e3, e4⟩, l0⟩, t0, stp_lt hs e3, e3, e4, g2⟩, by simp [jrun, e3, g3]⟩
theorem FF.least {to : Nat} {far : Nat → Int32} (F : FF to far) : ∀ (hs : List Nat) (s c : Nat), s < 512 → 1 ≤ c → hs.length < 512 → far s = nI hs.length → gr to far s hs → jrun s hs = some to → ∀ hs', jrun s hs' = some to → cdf c hs ≤ cdf c hs' := by
  intro hs
  induction hs with
  | nil =>
    intro s c h0 hc hl e g r hs' r'
    have := cdf_bnd c hs' (jrun_small r')
    have p : 1 ≤ 10 ^ hs'.length := Nat.one_le_pow _ _ (by omega)
    have q : c * 1 ≤ c * 10 ^ hs'.length := Nat.mul_le_mul_left _ p
    show c ≤ _
    omega
  | cons h hs ih =>
    intro s c h0 hc hl e g r hs' r'
    obtain ⟨z, n, -⟩ := F.num h0 (by omega) e
    have hle : (h :: hs).length ≤ hs'.length := Nat.le_of_not_lt fun q => n _ q ⟨hs', r', rfl⟩
    by_cases hlen : (h :: hs).length = hs'.length
    · cases hs' with
      | nil => simp at hlen
      | cons h' hs1 =>
        have hl2 : hs.length = hs1.length := by simpa using hlen
        obtain ⟨fo, t, t1, t2, t3, t4⟩ := g
        obtain ⟨u, u1, u2⟩ := jrun_cons r'
        obtain ⟨w, w1, w2⟩ := jrun_cons r
        rw [t2] at w1
        cases w1
        have el : (h :: hs).length = hs.length + 1 := rfl
        rw [el] at e n
        have eu := F.nx h0 n u1 ⟨hs1, u2, hl2.symm⟩
        have ep : far s - 1 = nI hs.length := by rw [e]; exact nI_pred _
        have hh : h ≤ h' := Nat.le_of_not_lt fun q => fo.2.2 h' q ⟨u, u1, by rw [ep]; exact eu⟩
        show cdf (10 * c + h) hs ≤ cdf (10 * c + h') hs1
        by_cases q : h = h'
        · subst q
          rw [t2] at u1
          cases u1
          exact ih t (10 * c + h) t1 (by omega) (by simp at hl; omega) (by rw [t3, ep]) t4 w2 hs1 u2
        · have a1 := cdf_bnd (10 * c + h) hs (jrun_small w2)
          have b1 := cdf_bnd (10 * c + h') hs1 (jrun_small u2)
          rw [hl2] at a1
          have : (10 * c + h + 1) * 10 ^ hs1.length ≤ (10 * c + h') * 10 ^ hs1.length := Nat.mul_le_mul_right _ (by omega)
          omega
    · have a1 := cdf_bnd c (h :: hs) (jrun_small r)
      have b1 := cdf_bnd c hs' (jrun_small r')
      generalize (h :: hs).length = L at a1 hle hlen
      have : 10 ^ (L + 1) ≤ 10 ^ hs'.length := Nat.pow_le_pow_right (by omega) (by omega)
      have p : 10 ^ (L + 1) = 10 ^ L * 10 := Nat.pow_succ ..
      have q : c * (10 ^ L * 10) ≤ c * 10 ^ hs'.length := Nat.mul_le_mul_left _ (by omega)
      have r : c * (10 ^ L * 10) = (10 * c) * 10 ^ L := by rw [Nat.mul_comm (10 ^ L) 10, ← Nat.mul_assoc, Nat.mul_comm c 10]
      have t : (c + 1) * 10 ^ L ≤ (10 * c) * 10 ^ L := Nat.mul_le_mul_right _ (by omega)
      omega
theorem FF.way {to : Nat} {far : Nat → Int32} (F : FF to far) {s m : Nat} (hs : s < 512) (hm : m < 512) (e : far s = nI m) : ∃ hs, hs.length = m ∧ gr to far s hs ∧ IsWay s to hs := by
  obtain ⟨l, h1, h2, h3⟩ := F.path m s hs hm e
  exact ⟨l, h1, h2, h3, F.least l s 1 hs (Nat.le_refl 1) (by omega) (by rw [h1]; exact e) h2 h3⟩
/-! loops: how many ways lead round -/
def sumH : Nat → (Nat → Nat) → Nat
  | 0, _ => 0
  | n + 1, f => sumH n f + f n
def lpn (st hi : Nat) : Nat → Nat → List Nat → Nat
  | 0, _, _ => 0
  | left + 1, x, vis => sumH (hi + 1) (fun h => match stp x h with
    | none => 0
    | some t => if left = 0 then (if t = st then 1 else 0) else if st < t ∧ ¬ t ∈ vis then lpn st hi left t (t :: vis) else 0)
def lpc (st hi left x : Nat) (vis : List Nat) (h : Nat) : Nat := match stp x h with
  | none => 0
  | some t => if left = 0 then (if t = st then 1 else 0) else if st < t ∧ ¬ t ∈ vis then lpn st hi left t (t :: vis) else 0
theorem lpn_eq (st hi left x : Nat) (vis : List Nat) : lpn st hi (left + 1) x vis = sumH (hi + 1) (lpc st hi left x vis) := rfl
def lpAll (bits hi steps : Nat) : Nat := sumH (2 ^ hi) (fun s => if bc s = bits then lpn s hi steps s [s] else 0)
theorem stp_small : ∀ hi, hi < 6 → ∀ x, x < 2 ^ hi → ∀ h, h < hi + 1 → (stp x h).all (fun t => decide (t < 2 ^ hi)) = true := by decide +kernel
theorem stp_sm {hi x h t : Nat} (h1 : hi < 6) (h2 : x < 2 ^ hi) (h3 : h < hi + 1) (e : stp x h = some t) : t < 2 ^ hi := by
  have := stp_small hi h1 x h2 h h3
  rw [e] at this
  simpa using this
