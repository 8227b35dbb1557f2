/-! the broad search of the class: what its arrays hold -/
def cntM (b : Nat → Int32) : Nat → Nat
  | 0 => 0
  | n + 1 => cntM b n + (if b n = -1 then 0 else 1)
theorem cntM_le (b : Nat → Int32) (n : Nat) : cntM b n ≤ n := by
  induction n with
  | zero => exact Nat.le_refl 0
  | succ n ih => show cntM b n + _ ≤ n + 1; split <;> omega
theorem cntM_lt {b : Nat → Int32} {t n : Nat} (h : t < n) (e : b t = -1) : cntM b n < n := by
  induction n with
  | zero => omega
  | succ n ih =>
    show cntM b n + _ < n + 1
    have hle := cntM_le b n
    by_cases q : t = n
    · subst q; rw [if_pos e]; omega
    · have := ih (by omega); split <;> omega
theorem cntM_same {b b' : Nat → Int32} {n : Nat} (h : ∀ t, t < n → b' t = b t) : cntM b' n = cntM b n := by
  induction n with
  | zero => rfl
  | succ n ih =>
    show cntM b' n + _ = cntM b n + _
    rw [ih (fun t q => h t (by omega)), h n (by omega)]
theorem cntM_upd {b : Nat → Int32} {t n : Nat} {v : Int32} (h : t < n) (e : b t = -1) (hv : ¬ v = -1) : cntM (upd b t v) n = cntM b n + 1 := by
  induction n with
  | zero => omega
  | succ n ih =>
    show cntM (upd b t v) n + _ = cntM b n + _ + 1
    by_cases q : t = n
    · subst q
      rw [cntM_same (b := b) (b' := upd b t v) (fun j hj => pk_un (by omega)), pk_us, if_neg hv, if_pos e]
    · rw [ih (by omega), pk_un (show n ≠ t by omega)]
      omega
theorem cntM_none {b : Nat → Int32} {n : Nat} (h : ∀ t, t < n → b t = -1) : cntM b n = 0 := by
  induction n with
  | zero => rfl
  | succ n ih =>
    show cntM b n + _ = 0
    rw [ih (fun t q => h t (by omega)), if_pos (h n (by omega))]
def BI (f : Nat) (b ht q : Nat → Int32) (k i h : Nat) : Prop := ∃ (qn κ : Nat → Nat),
  (1 ≤ k ∧ k ≤ 512 ∧ qn 0 = f ∧ κ f = 1 ∧ b f = nI f ∧ cntM b 512 = k) ∧
  (∀ j, j < k → qn j < 512 ∧ q j = nI (qn j)) ∧
  (∀ j j', j < j' → j' < k → κ (qn j) < κ (qn j')) ∧
  (∀ t, t < 512 → (b t = -1 ↔ ∀ j, j < k → qn j ≠ t)) ∧
  (∀ j, 0 < j → j < k → ∃ j0 h0, j0 < j ∧ h0 < 10 ∧ b (qn j) = nI (qn j0) ∧ ht (qn j) = nI h0 ∧ stp (qn j0) h0 = some (qn j) ∧ κ (qn j) = 10 * κ (qn j0) + h0 ∧ (j0 < i ∨ j0 = i ∧ h0 < h)) ∧
  (∀ j h', j < k → h' < 10 → (j < i ∨ j = i ∧ h' < h) → ∀ t, stp (qn j) h' = some t → ∃ j', j' < k ∧ qn j' = t ∧ κ t ≤ 10 * κ (qn j) + h')
theorem BI.init {f : Nat} {b ht q : Nat → Int32} (hf : f < 512) (hb : ∀ t, t < 512 → b t = -1) : BI f (upd b f (nI f)) ht (upd q 0 (nI f)) 1 0 0 := by
  refine ⟨fun _ => f, fun _ => 1, ⟨by omega, by omega, rfl, rfl, pk_us, ?_⟩, fun j hj => ?_, fun j j' h1 h2 => by omega, fun t ht => ?_, fun j h1 h2 => by omega, fun j h' h1 h2 h3 => by omega⟩
  · rw [cntM_upd hf (hb f hf) (nI_m1 (by omega)), cntM_none hb]
  · have : j = 0 := by omega
    subst this
    exact ⟨hf, pk_us⟩
  · by_cases e : t = f
    · subst e
      rw [pk_us]
      exact ⟨fun h => absurd h (nI_m1 (by omega)), fun h => absurd rfl (h 0 (by omega))⟩
    · rw [pk_un e]
      exact ⟨fun _ _ _ h => e h.symm, fun _ => hb t ht⟩
theorem BI.at {f : Nat} {b ht q : Nat → Int32} {k i h : Nat} (B : BI f b ht q k i h) {j : Nat} (hj : j < k) : ∃ x, x < 512 ∧ q j = nI x := by
  obtain ⟨qn, κ, -, h2, -⟩ := B
  exact ⟨qn j, h2 j hj⟩
theorem BI.k {f : Nat} {b ht q : Nat → Int32} {k i h : Nat} (B : BI f b ht q k i h) : 1 ≤ k ∧ k ≤ 512 := by
  obtain ⟨qn, κ, h1, -⟩ := B
  exact ⟨h1.1, h1.2.1⟩
theorem BI.bb {f : Nat} {b ht q : Nat → Int32} {k i h : Nat} (B : BI f b ht q k i h) {t : Nat} (ht0 : t < 512) : b t = -1 ∨ ∃ x, x < 512 ∧ b t = nI x := by
  obtain ⟨qn, κ, ⟨k1, k2, q0, κf, bf, cn⟩, h2, h3, h4, h5, h6⟩ := B
  by_cases e : b t = -1
  · exact Or.inl e
  · right
    have : ¬ ∀ j, j < k → qn j ≠ t := fun z => e ((h4 t ht0).mpr z)
    have : ∃ j, j < k ∧ qn j = t := by
      refine Classical.byContradiction fun z => this (fun j hj e => z ⟨j, hj, e⟩)
    obtain ⟨j, hj, rfl⟩ := this
    by_cases z : j = 0
    · subst z; exact ⟨f, by rw [← q0]; exact (h2 0 hj).1, by rw [q0]; exact bf⟩
    · obtain ⟨j0, h0, a1, a2, a3, -⟩ := h5 j (by omega) hj
      exact ⟨qn j0, (h2 j0 (by omega)).1, a3⟩
/-- codes of what was found are no greater than the code that is come to now -/
theorem BI.code {f : Nat} {b ht : Nat → Int32} {k i h : Nat} {qn κ : Nat → Nat} (hi : i < k) (k0 : qn 0 = f) (κf : κ f = 1)
    (h3 : ∀ j j', j < j' → j' < k → κ (qn j) < κ (qn j'))
    (h5 : ∀ j, 0 < j → j < k → ∃ j0 h0, j0 < j ∧ h0 < 10 ∧ b (qn j) = nI (qn j0) ∧ ht (qn j) = nI h0 ∧ stp (qn j0) h0 = some (qn j) ∧ κ (qn j) = 10 * κ (qn j0) + h0 ∧ (j0 < i ∨ j0 = i ∧ h0 < h)) :
    ∀ j, j < k → κ (qn j) < 10 * κ (qn i) + h := by
  have pos : ∀ j, j < k → 1 ≤ κ (qn j) := by
    intro j hj
    by_cases z : j = 0
    · subst z; rw [k0, κf]; exact Nat.le_refl 1
    · have := h3 0 j (by omega) hj
      omega
  intro j hj
  by_cases z : j = 0
  · subst z
    have := pos i hi
    rw [k0, κf]
    omega
  · obtain ⟨j0, h0, a1, a2, -, -, -, a6, a7⟩ := h5 j (by omega) hj
    rw [a6]
    rcases a7 with a7 | ⟨a7, a8⟩
    · have := h3 j0 i a7 hi
      omega
    · subst a7
      omega
theorem BI.skip {f : Nat} {b ht q : Nat → Int32} {k i h x : Nat} (B : BI f b ht q k i h) (hi : i < k) (hh : h < 10) (hx : x < 512) (eq : q i = nI x) (hn : ∀ t, stp x h = some t → ¬ b t = -1) : BI f b ht q k i (h + 1) := by
  obtain ⟨qn, κ, ⟨k1, k2, q0, κf, bf, cn⟩, h2, h3, h4, h5, h6⟩ := B
  have ex : qn i = x := (nI_eq (by have := (h2 i hi).1; omega) (by omega)).mp ((h2 i hi).2.symm.trans eq)
  have hc := BI.code (h := h) hi q0 κf h3 h5
  refine ⟨qn, κ, ⟨k1, k2, q0, κf, bf, cn⟩, h2, h3, h4, ?_, ?_⟩
  · intro j hj hk
    obtain ⟨j0, h0, a1, a2, a3, a4, a5, a6, a7⟩ := h5 j hj hk
    exact ⟨j0, h0, a1, a2, a3, a4, a5, a6, by omega⟩
  · intro j h' hj hh' hlt t et
    by_cases z : j < i ∨ j = i ∧ h' < h
    · exact h6 j h' hj hh' z t et
    · have e1 : j = i := by omega
      have e2 : h' = h := by omega
      subst e1; subst e2
      rw [ex] at et
      have hb := hn t et
      have hq : ¬ ∀ j', j' < k → qn j' ≠ t := fun z => hb ((h4 t (stp_lt hx et)).mpr z)
      have : ∃ j', j' < k ∧ qn j' = t := Classical.byContradiction fun z => hq (fun j' hj' e => z ⟨j', hj', e⟩)
      obtain ⟨j', hj', e⟩ := this
      exact ⟨j', hj', e, by rw [← e]; exact Nat.le_of_lt (hc j' hj')⟩
theorem BI.push {f : Nat} {b ht q : Nat → Int32} {k i h x t : Nat} (B : BI f b ht q k i h) (hi : i < k) (hh : h < 10) (hx : x < 512) (eq : q i = nI x) (et : stp x h = some t) (eb : b t = -1) : k < 512 ∧ BI f (upd b t (nI x)) (upd ht t (nI h)) (upd q k (nI t)) (k + 1) i (h + 1) := by
  obtain ⟨qn, κ, ⟨k1, k2, q0, κf, bf, cn⟩, h2, h3, h4, h5, h6⟩ := B
  have ex : qn i = x := (nI_eq (by have := (h2 i hi).1; omega) (by omega)).mp ((h2 i hi).2.symm.trans eq)
  have hc := BI.code (h := h) hi q0 κf h3 h5
  have htl : t < 512 := stp_lt hx et
  have hkl : k < 512 := by have := cntM_lt htl eb; omega
  have hnew : ∀ j, j < k → qn j ≠ t := (h4 t htl).mp eb
  have hft : f ≠ t := by rw [← q0]; exact hnew 0 (by omega)
  -- the new numbers
  have qo : ∀ j, j < k → (fun j => if j = k then t else qn j) j = qn j := fun j hj => by show (if j = k then t else qn j) = qn j; rw [if_neg (by omega)]
  have qk : (fun j => if j = k then t else qn j) k = t := by show (if k = k then t else qn k) = t; rw [if_pos rfl]
  have κo : ∀ j, j < k → (fun z => if z = t then 10 * κ x + h else κ z) (qn j) = κ (qn j) := fun j hj => by show (if qn j = t then _ else _) = _; rw [if_neg (hnew j hj)]
  have κt : (fun z => if z = t then 10 * κ x + h else κ z) t = 10 * κ x + h := by show (if t = t then _ else _) = _; rw [if_pos rfl]
  refine ⟨hkl, fun j => if j = k then t else qn j, fun z => if z = t then 10 * κ x + h else κ z, ⟨by omega, by omega, ?_, ?_, ?_, ?_⟩, ?_, ?_, ?_, ?_, ?_⟩
  · rw [qo 0 (by omega)]; exact q0
  · show (if f = t then _ else κ f) = 1
    rw [if_neg hft]; exact κf
  · rw [pk_un hft]; exact bf
  · rw [cntM_upd htl eb (nI_m1 (by omega)), cn]
  · intro j hj
    by_cases z : j = k
    · subst z; rw [qk, pk_us]; exact ⟨htl, rfl⟩
    · rw [qo j (by omega), pk_un z]; exact h2 j (by omega)
  · intro j j' h1 hj'
    by_cases z : j' = k
    · subst z
      rw [qk, qo j (by omega), κt, κo j (by omega), ← ex]
      exact hc j (by omega)
    · rw [qo j' (by omega), qo j (by omega), κo j (by omega), κo j' (by omega)]
      exact h3 j j' h1 (by omega)
  · intro u hu
    by_cases z : u = t
    · subst z
      rw [pk_us]
      exact ⟨fun e => absurd e (nI_m1 (by omega)), fun e => absurd qk (e k (by omega))⟩
    · rw [pk_un z]
      refine ⟨fun e j hj => ?_, fun e => (h4 u hu).mpr (fun j hj => ?_)⟩
      · by_cases y : j = k
        · subst y; rw [qk]; exact fun e => z e.symm
        · rw [qo j (by omega)]; exact (h4 u hu).mp e j (by omega)
      · have := e j (by omega)
        rw [qo j hj] at this
        exact this
  · intro j hj0 hj
    by_cases z : j = k
    · subst z
      refine ⟨i, h, hi, hh, ?_, ?_, ?_, ?_, Or.inr ⟨rfl, by omega⟩⟩
      · rw [qk, qo i hi, pk_us, ex]
      · rw [qk, pk_us]
      · rw [qk, qo i hi, ex]; exact et
      · rw [qk, qo i hi, κt, κo i hi, ex]
    · obtain ⟨j0, h0, a1, a2, a3, a4, a5, a6, a7⟩ := h5 j hj0 (by omega)
      refine ⟨j0, h0, a1, a2, ?_, ?_, ?_, ?_, by omega⟩
      · rw [qo j (by omega), qo j0 (by omega), pk_un (hnew j (by omega))]; exact a3
      · rw [qo j (by omega), pk_un (hnew j (by omega))]; exact a4
      · rw [qo j (by omega), qo j0 (by omega)]; exact a5
      · rw [qo j (by omega), qo j0 (by omega), κo j (by omega), κo j0 (by omega)]; exact a6
  · intro j h' hj hh' hlt u eu
    have hjk : j < k := by omega
    rw [qo j hjk] at eu
    by_cases z : j < i ∨ j = i ∧ h' < h
    · obtain ⟨j', c1, c2, c3⟩ := h6 j h' hjk hh' z u eu
      refine ⟨j', by omega, by rw [qo j' c1]; exact c2, ?_⟩
      rw [qo j hjk, κo j hjk, ← c2, κo j' c1, c2]
      exact c3
    · have e1 : j = i := by omega
      have e2 : h' = h := by omega
      subst e1; subst e2
      rw [ex, et] at eu
      cases eu
      refine ⟨k, by omega, qk, ?_⟩
      rw [κt, qo j hjk, κo j hjk, ex]
      exact Nat.le_refl _
theorem BI.next {f : Nat} {b ht q : Nat → Int32} {k i : Nat} (B : BI f b ht q k i 10) : BI f b ht q k (i + 1) 0 := by
  obtain ⟨qn, κ, h1, h2, h3, h4, h5, h6⟩ := B
  refine ⟨qn, κ, h1, h2, h3, h4, ?_, fun j h' hj hh' hlt => h6 j h' hj hh' (by omega)⟩
  intro j hj hk
  obtain ⟨j0, h0, a1, a2, a3, a4, a5, a6, a7⟩ := h5 j hj hk
  exact ⟨j0, h0, a1, a2, a3, a4, a5, a6, by omega⟩
/-- the way back by the arrays, its heights the last first -/
def jtr (b ht : Nat → Int32) (f : Nat) : Nat → List Nat → Prop
  | t, [] => t = f
  | t, h :: rs => t ≠ f ∧ t < 512 ∧ h < 10 ∧ ht t = nI h ∧ ∃ t', t' < 512 ∧ b t = nI t' ∧ jtr b ht f t' rs
theorem BI.done {f : Nat} {b ht q : Nat → Int32} {k : Nat} (B : BI f b ht q k k 0) {t : Nat} (ht0 : t < 512) : (b t = -1 → ¬ ∃ hs, jrun f hs = some t) ∧ (¬ b t = -1 → ∃ rs, jtr b ht f t rs ∧ rs.length < 512 ∧ IsWay f t rs.reverse) := by
  obtain ⟨qn, κ, ⟨k1, k2, q0, κf, bf, cn⟩, h2, h3, h4, h5, h6⟩ := B
  have all : ∀ (rs : List Nat) (u : Nat), jrrun f rs = some u → ∃ j, j < k ∧ qn j = u ∧ κ u ≤ cdr rs := by
    intro rs
    induction rs with
    | nil => intro u e; cases e; exact ⟨0, by omega, q0, by rw [κf]; exact Nat.le_refl 1⟩
    | cons h rs ih =>
      intro u e
      cases e1 : jrrun f rs with
      | none => simp [jrrun, e1] at e
      | some v =>
        have e2 : stp v h = some u := by simpa [jrrun, e1] using e
        obtain ⟨j, hj, ev, hk⟩ := ih v e1
        rw [← ev] at e2
        obtain ⟨j', c1, c2, c3⟩ := h6 j h hj (stp_h e2) (Or.inl hj) u e2
        refine ⟨j', c1, c2, Nat.le_trans c3 ?_⟩
        show _ ≤ 10 * cdr rs + h
        rw [ev]
        omega
  have back : ∀ (n j : Nat), j < n → j < k → ∃ rs, jtr b ht f (qn j) rs ∧ rs.length ≤ j ∧ jrrun f rs = some (qn j) ∧ cdr rs = κ (qn j) := by
    intro n
    induction n with
    | zero => intro j h; omega
    | succ n ih =>
      intro j hn hj
      by_cases z : j = 0
      · subst z
        exact ⟨[], q0, Nat.le_refl 0, by rw [q0]; rfl, by rw [q0, κf]; rfl⟩
      · obtain ⟨j0, h0, a1, a2, a3, a4, a5, a6, -⟩ := h5 j (by omega) hj
        obtain ⟨rs, r1, r2, r3, r4⟩ := ih j0 (by omega) (by omega)
        refine ⟨h0 :: rs, ⟨?_, (h2 j hj).1, a2, a4, qn j0, (h2 j0 (by omega)).1, a3, r1⟩, by simp; omega, ?_, ?_⟩
        · intro e
          have := h3 0 j (by omega) hj
          rw [q0, e] at this
          omega
        · show (jrrun f rs).bind (fun t => stp t h0) = _
          rw [r3]; exact a5
        · show 10 * cdr rs + h0 = _
          rw [r4, a6]
  refine ⟨fun e => ?_, fun e => ?_⟩
  · rintro ⟨hs, er⟩
    have e2 : jrrun f hs.reverse = some t := by rw [← jrun_rev, List.reverse_reverse]; exact er
    obtain ⟨j, hj, ej, -⟩ := all _ _ e2
    exact (h4 t ht0).mp e j hj ej
  · have hq : ¬ ∀ j', j' < k → qn j' ≠ t := fun z => e ((h4 t ht0).mpr z)
    have : ∃ j', j' < k ∧ qn j' = t := Classical.byContradiction fun z => hq (fun j' hj' e => z ⟨j', hj', e⟩)
    obtain ⟨j, hj, ej⟩ := this
    obtain ⟨rs, r1, r2, r3, r4⟩ := back (j + 1) j (by omega) hj
    rw [ej] at r1 r3 r4
    refine ⟨rs, r1, by omega, by rw [jrun_rev]; exact r3, fun hs' er => ?_⟩
    rw [cdf_rev, r4]
    have e2 : jrrun f hs'.reverse = some t := by rw [← jrun_rev, List.reverse_reverse]; exact er
    obtain ⟨j', -, -, le⟩ := all _ _ e2
    rw [← cdf_rev, List.reverse_reverse] at le
    exact le
