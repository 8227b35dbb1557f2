/-! states and steps: the numbers behind way and loops -/
def stp (s h : Nat) : Option Nat := if 10 ≤ h then none else if s % 2 = 0 then (if h = 0 then some (s / 2) else none) else if h = 0 then none else if (s / 2 / 2 ^ (h - 1)) % 2 = 1 then none else some (s / 2 + 2 ^ (h - 1))
def bcF : Nat → Nat → Nat
  | 0, _ => 0
  | k + 1, n => n % 2 + bcF k (n / 2)
/-- how many bits -/
def bc (n : Nat) : Nat := bcF 9 n
def stI (s h : Nat) : Int32 := match stp s h with
  | none => -1
  | some t => nI t
theorem stp_tab : ∀ s, s < 512 → ∀ h, h < 10 → (stp s h).all (fun t => decide (t < 512) && decide (bc t = bc s)) = true := by decide +kernel
theorem stp_h {s h t : Nat} (e : stp s h = some t) : h < 10 := by
  unfold stp at e
  split at e
  · cases e
  · omega
theorem stp_lt {s h t : Nat} (hs : s < 512) (e : stp s h = some t) : t < 512 := by
  have := stp_tab s hs h (stp_h e)
  rw [e] at this
  simp at this
  exact this.1
theorem stp_bc {s h t : Nat} (hs : s < 512) (e : stp s h = some t) : bc t = bc s := by
  have := stp_tab s hs h (stp_h e)
  rw [e] at this
  simp at this
  exact this.2
theorem stI_none {s h : Nat} (e : stp s h = none) : stI s h = -1 := by unfold stI; rw [e]
theorem stI_some {s h t : Nat} (e : stp s h = some t) : stI s h = nI t := by unfold stI; rw [e]
theorem nI_m1 {t : Nat} (h : t < 2 ^ 31) : ¬ nI t = -1 := fun e => absurd (show nI t < 0 by rw [e]; decide) (nI_pos h)
/-- heights one behind the other, from a state -/
def jrun : Nat → List Nat → Option Nat
  | s, [] => some s
  | s, h :: hs => (stp s h).bind (fun t => jrun t hs)
/-- the same, the last height first -/
def jrrun (f : Nat) : List Nat → Option Nat
  | [] => some f
  | h :: rs => (jrrun f rs).bind (fun t => stp t h)
def cdf : Nat → List Nat → Nat
  | c, [] => c
  | c, h :: hs => cdf (10 * c + h) hs
def cdr : List Nat → Nat
  | [] => 1
  | h :: rs => 10 * cdr rs + h
theorem jrun_snoc (s : Nat) (hs : List Nat) (h : Nat) : jrun s (hs ++ [h]) = (jrun s hs).bind (fun t => stp t h) := by
  induction hs generalizing s with
  | nil => cases e : stp s h <;> simp [jrun, e]
  | cons a as ih =>
    show (stp s a).bind (fun t => jrun t (as ++ [h])) = ((stp s a).bind (fun t => jrun t as)).bind _
    cases e : stp s a with
    | none => rfl
    | some t => exact ih t
theorem jrun_rev (s : Nat) (rs : List Nat) : jrun s rs.reverse = jrrun s rs := by
  induction rs with
  | nil => rfl
  | cons h rs ih => rw [List.reverse_cons, jrun_snoc, ih]; rfl
theorem cdf_snoc (c : Nat) (hs : List Nat) (h : Nat) : cdf c (hs ++ [h]) = 10 * cdf c hs + h := by
  induction hs generalizing c with
  | nil => rfl
  | cons a as ih => exact ih _
theorem cdf_rev (rs : List Nat) : cdf 1 rs.reverse = cdr rs := by
  induction rs with
  | nil => rfl
  | cons h rs ih => rw [List.reverse_cons, cdf_snoc, ih]; rfl
theorem jrun_lt {s t : Nat} (hs : List Nat) (h0 : s < 512) (e : jrun s hs = some t) : t < 512 := by
  induction hs generalizing s with
  | nil => cases e; exact h0
  | cons a as ih =>
    cases e1 : stp s a with
    | none => simp [jrun, e1] at e
    | some u => exact ih (stp_lt h0 e1) (by simpa [jrun, e1] using e)
theorem jrun_bc {s t : Nat} (hs : List Nat) (h0 : s < 512) (e : jrun s hs = some t) : bc t = bc s := by
  induction hs generalizing s with
  | nil => cases e; rfl
  | cons a as ih =>
    cases e1 : stp s a with
    | none => simp [jrun, e1] at e
    | some u => rw [ih (stp_lt h0 e1) (by simpa [jrun, e1] using e), stp_bc h0 e1]
theorem jrun_cons {s t h : Nat} {hs : List Nat} (e : jrun s (h :: hs) = some t) : ∃ u, stp s h = some u ∧ jrun u hs = some t := by
  cases e1 : stp s h with
  | none => simp [jrun, e1] at e
  | some u => exact ⟨u, rfl, by simpa [jrun, e1] using e⟩
theorem cdf_bnd (c : Nat) (hs : List Nat) (hh : ∀ h ∈ hs, h < 10) : c * 10 ^ hs.length ≤ cdf c hs ∧ cdf c hs < (c + 1) * 10 ^ hs.length := by
  induction hs generalizing c with
  | nil => simp [cdf]
  | cons a as ih =>
    have h1 := ih (10 * c + a) (fun h m => hh h (List.mem_cons_of_mem _ m))
    have ha : a < 10 := hh a List.mem_cons_self
    have e10 : 10 ^ (a :: as).length = 10 * 10 ^ as.length := by rw [List.length_cons, Nat.pow_succ, Nat.mul_comm]
    rw [e10]
    generalize 10 ^ as.length = P at h1 ⊢
    show c * (10 * P) ≤ cdf (10 * c + a) as ∧ cdf (10 * c + a) as < (c + 1) * (10 * P)
    have m1 : c * (10 * P) = (10 * c) * P := by rw [← Nat.mul_assoc, Nat.mul_comm c 10]
    have m2 : (c + 1) * (10 * P) = (10 * c + 10) * P := by rw [← Nat.mul_assoc, show (c + 1) * 10 = 10 * c + 10 by omega]
    have m3 : (10 * c) * P ≤ (10 * c + a) * P := Nat.mul_le_mul_right _ (by omega)
    have m4 : (10 * c + a + 1) * P ≤ (10 * c + 10) * P := Nat.mul_le_mul_right _ (by omega)
    omega
theorem jrun_small {s t : Nat} {hs : List Nat} (e : jrun s hs = some t) : ∀ h ∈ hs, h < 10 := by
  induction hs generalizing s with
  | nil => intro h m; cases m
  | cons a as ih =>
    obtain ⟨u, e1, e2⟩ := jrun_cons e
    intro h m
    rcases List.mem_cons.mp m with rfl | m
    · exact stp_h e1
    · exact ih e2 h m
theorem cdf_inj {c : Nat} (as bs : List Nat) (hc : 1 ≤ c) (ha : ∀ h ∈ as, h < 10) (hb : ∀ h ∈ bs, h < 10) (e : cdf c as = cdf c bs) : as = bs := by
  have len : as.length = bs.length := by
    have a1 := cdf_bnd c as ha
    have b1 := cdf_bnd c bs hb
    rw [e] at a1
    rcases Nat.lt_trichotomy as.length bs.length with h | h | h
    · exfalso
      have : 10 ^ (as.length + 1) ≤ 10 ^ bs.length := Nat.pow_le_pow_right (by omega) h
      have p : 10 ^ (as.length + 1) = 10 ^ as.length * 10 := Nat.pow_succ ..
      have q : c * (10 ^ as.length * 10) ≤ c * 10 ^ bs.length := Nat.mul_le_mul_left _ (by omega)
      have r : c * (10 ^ as.length * 10) = (10 * c) * 10 ^ as.length := by rw [Nat.mul_comm (10 ^ as.length) 10, ← Nat.mul_assoc, Nat.mul_comm c 10]
      have t : (c + 1) * 10 ^ as.length ≤ (10 * c) * 10 ^ as.length := Nat.mul_le_mul_right _ (by omega)
      omega
    · exact h
    · exfalso
      have : 10 ^ (bs.length + 1) ≤ 10 ^ as.length := Nat.pow_le_pow_right (by omega) h
      have p : 10 ^ (bs.length + 1) = 10 ^ bs.length * 10 := Nat.pow_succ ..
      have q : c * (10 ^ bs.length * 10) ≤ c * 10 ^ as.length := Nat.mul_le_mul_left _ (by omega)
      have r : c * (10 ^ bs.length * 10) = (10 * c) * 10 ^ bs.length := by rw [Nat.mul_comm (10 ^ bs.length) 10, ← Nat.mul_assoc, Nat.mul_comm c 10]
      have t : (c + 1) * 10 ^ bs.length ≤ (10 * c) * 10 ^ bs.length := Nat.mul_le_mul_right _ (by omega)
      omega
  clear hc
  induction as generalizing bs c with
  | nil => cases bs with
    | nil => rfl
    | cons b bs => simp at len
  | cons a as ih => cases bs with
    | nil => simp at len
    | cons b bs =>
      have len2 : as.length = bs.length := by simpa using len
      have ha2 : ∀ h ∈ as, h < 10 := fun h m => ha h (List.mem_cons_of_mem _ m)
      have hb2 : ∀ h ∈ bs, h < 10 := fun h m => hb h (List.mem_cons_of_mem _ m)
      have a1 := cdf_bnd (10 * c + a) as ha2
      have b1 := cdf_bnd (10 * c + b) bs hb2
      have e2 : cdf (10 * c + a) as = cdf (10 * c + b) bs := e
      rw [e2, len2] at a1
      have hab : a = b := by
        rcases Nat.lt_trichotomy a b with h | h | h
        · exfalso
          have : (10 * c + a + 1) * 10 ^ bs.length ≤ (10 * c + b) * 10 ^ bs.length := Nat.mul_le_mul_right _ (by omega)
          omega
        · exact h
        · exfalso
          have : (10 * c + b + 1) * 10 ^ bs.length ≤ (10 * c + a) * 10 ^ bs.length := Nat.mul_le_mul_right _ (by omega)
          omega
      subst hab
      rw [ih bs ha2 hb2 e2 len2]
/-- the way: of the heights that lead there the ones with the least number -/
def IsWay (f t : Nat) (hs : List Nat) : Prop := jrun f hs = some t ∧ ∀ hs', jrun f hs' = some t → cdf 1 hs ≤ cdf 1 hs'
theorem IsWay.uniq {f t : Nat} {as bs : List Nat} (ha : IsWay f t as) (hb : IsWay f t bs) : as = bs :=
  cdf_inj as bs (Nat.le_refl 1) (jrun_small ha.1) (jrun_small hb.1) (Nat.le_antisymm (ha.2 _ hb.1) (hb.2 _ ha.1))
def wayOf (hs : List Nat) (i : Int32) : Int32 := if i = -1 then nI hs.length else if i < 0 then -1 else if nI hs.length ≤ i then -1 else nI (hs.getD i.toNatClampNeg 0)
/-- what way answers -/
def WA (f t i r : Int32) : Prop := (¬ (∃ a b : Nat, a < 512 ∧ b < 512 ∧ f = nI a ∧ t = nI b) ∧ r = -1) ∨ ∃ a b : Nat, a < 512 ∧ b < 512 ∧ f = nI a ∧ t = nI b ∧ (((¬ ∃ hs, jrun a hs = some b) ∧ r = -1) ∨ ∃ hs, IsWay a b hs ∧ r = wayOf hs i)
theorem WA.uniq {f t i r r' : Int32} (h : WA f t i r) (h' : WA f t i r') : r = r' := by
  rcases h with ⟨n1, h⟩ | ⟨a, b, ha, hb, ef, et, h⟩
  · rcases h' with ⟨n2, h'⟩ | ⟨a', b', ha', hb', ef', et', -⟩
    · rw [h, h']
    · exact absurd ⟨a', b', ha', hb', ef', et'⟩ n1
  · rcases h' with ⟨n2, h'⟩ | ⟨a', b', ha', hb', ef', et', h'⟩
    · exact absurd ⟨a, b, ha, hb, ef, et⟩ n2
    · have e1 : a = a' := (nI_eq (by omega) (by omega)).mp (ef.symm.trans ef')
      have e2 : b = b' := (nI_eq (by omega) (by omega)).mp (et.symm.trans et')
      subst e1; subst e2
      rcases h with ⟨n, h⟩ | ⟨hs, w, h⟩
      · rcases h' with ⟨n', h'⟩ | ⟨hs', w', h'⟩
        · rw [h, h']
        · exact absurd ⟨hs', w'.1⟩ n
      · rcases h' with ⟨n', h'⟩ | ⟨hs', w', h'⟩
        · exact absurd ⟨hs, w.1⟩ n'
        · rw [h, h', w.uniq w']
theorem way_ex {a b : Nat} (h : ∃ hs, jrun a hs = some b) : ∃ hs, IsWay a b hs := by
  obtain ⟨hs, e⟩ := h
  obtain ⟨c, ⟨hs0, e0, c0⟩, least⟩ := pk_least (fun c => ∃ hs, jrun a hs = some b ∧ cdf 1 hs = c) ⟨_, hs, e, rfl⟩
  exact ⟨hs0, e0, fun hs' e' => Nat.le_of_not_lt fun q => least _ (by rw [← c0]; exact q) ⟨hs', e', rfl⟩⟩
