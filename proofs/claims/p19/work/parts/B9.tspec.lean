/-- steps of any machine -/
def Rn {α : Type} (R : α → α → Prop) : Nat → α → α → Prop
  | 0, c, c' => c = c'
  | m + 1, c, c' => ∃ d, R c d ∧ Rn R m d c'
def RGo {α : Type} (R : α → α → Prop) (c c' : α) : Prop := ∃ m, Rn R m c c'
theorem RGo_rf {α : Type} {R : α → α → Prop} {c : α} : RGo R c c := ⟨0, rfl⟩
theorem RGo_tr {α : Type} {R : α → α → Prop} {a b c : α} (h : RGo R a b) (h' : RGo R b c) : RGo R a c := by
  obtain ⟨m, hm⟩ := h
  induction m generalizing a with
  | zero =>
    have hm : a = b := hm
    rw [hm]; exact h'
  | succ m ih =>
    obtain ⟨d, d1, d2⟩ := hm
    obtain ⟨k, hk⟩ := ih d2
    exact ⟨k + 1, d, d1, hk⟩
theorem RGo_1 {α : Type} {R : α → α → Prop} {a b : α} (h : R a b) : RGo R a b := ⟨1, b, h, rfl⟩
theorem Rn_end {α : Type} {R : α → α → Prop} (hu : ∀ a b c, R a b → R a c → b = c) {m k : Nat} {a b c : α} (hb : ∀ d, ¬ R b d) (hc : ∀ d, ¬ R c d) (h : Rn R m a b) (h' : Rn R k a c) : b = c := by
  induction m generalizing a k with
  | zero =>
    have h : a = b := h
    subst h
    cases k with
    | zero => exact h'
    | succ k =>
      obtain ⟨d, d1, _⟩ := h'
      exact absurd d1 (hb d)
  | succ m ih =>
    obtain ⟨d, d1, d2⟩ := h
    cases k with
    | zero =>
      have h' : a = c := h'
      subst h'
      exact absurd d1 (hc d)
    | succ k =>
      obtain ⟨e, e1, e2⟩ := h'
      have := hu _ _ _ d1 e1
      subst this
      exact ih d2 e2
/-- the reading of a text as a machine: token, rows that letters name, letters told in it -/
abbrev Env1 : Type := Int → Int × (Int → Int)
abbrev Tx : Type := Nat × Env1 × (Int → Int)
def eup (E : Env1) (l : Int) (v : Int × (Int → Int)) : Env1 := fun j => if j = l then v else E j
theorem eu_s {E : Env1} {l : Int} {v : Int × (Int → Int)} : eup E l v l = v := if_pos rfl
theorem eu_n {E : Env1} {l j : Int} {v : Int × (Int → Int)} (h : j ≠ l) : eup E l v j = E j := if_neg h
def Mrk (k : Int) : Prop := k = 1 ∨ k = 63
def Clp (ks vs : Nat → Int) (c c' : Tx) : Prop :=
  match c with
  | (i, E, F) =>
    (ks i = 5 ∧ ks (i + 1) = 2 ∧ ks (i + 2) = 61 ∧ ∃ (ic : Nat) (t o mt : Int) (w st op dg : Int → Int), Wel ks vs E (Cf0 (i + 3)) (ic, 0, t, o, mt, 1, w, st, op, dg) ∧ ks ic = 59 ∧ c' = (ic + 1, eup E (vs (i + 1)) (t, w), fupd F (vs (i + 1)) 1)) ∨
    (ks i = 6 ∧ ∃ m : Nat, 1 ≤ m ∧ m ≤ 7 ∧ (∀ k : Nat, 1 ≤ k → k ≤ m → Mrk (ks (i + k))) ∧ ks (i + m + 1) = 59 ∧ c' = (i + m + 2, E, F))
theorem Clp_u {ks vs : Nat → Int} (a b c : Tx) (h : Clp ks vs a b) (h' : Clp ks vs a c) : b = c := by
  obtain ⟨i, E, F⟩ := a
  unfold Clp at h h'
  dsimp only at h h'
  rcases h with ⟨h1, h2, h3, ic, t, o, mt, w, st, op, dg, h4, h5, h6⟩ | ⟨h1, m, h2, h3, h4, h5, h6⟩
  · rcases h' with ⟨g1, g2, g3, ic', t', o', mt', w', st', op', dg', g4, g5, g6⟩ | ⟨g1, _⟩
    · have := Wel_u h4 g4
      cases this
      rw [h6, g6]
    · omega
  · rcases h' with ⟨g1, _⟩ | ⟨g1, m', g2, g3, g4, g5, g6⟩
    · omega
    · have e : m = m' := by
        rcases Nat.lt_trichotomy m m' with q | q | q
        · have := g4 (m + 1) (by omega) (by omega)
          rw [show i + (m + 1) = i + m + 1 by omega, h5] at this
          unfold Mrk at this
          omega
        · exact q
        · have := h4 (m' + 1) (by omega) (by omega)
          rw [show i + (m' + 1) = i + m' + 1 by omega, g5] at this
          unfold Mrk at this
          omega
      subst e
      rw [h6, g6]
def TGo (ks vs : Nat → Int) (c c' : Tx) : Prop := RGo (Clp ks vs) c c'
/-- it is taken, at c'; it has a fault -/
def TWel (ks vs : Nat → Int) (c c' : Tx) : Prop := TGo ks vs c c' ∧ ks c'.1 = 0
def TFls (ks vs : Nat → Int) (c : Tx) : Prop := ∃ c', TGo ks vs c c' ∧ ks c'.1 ≠ 0 ∧ ∀ d, ¬ Clp ks vs c' d
theorem Clp_e {ks vs : Nat → Int} {c : Tx} (h : ks c.1 = 0) (d : Tx) : ¬ Clp ks vs c d := by
  obtain ⟨i, E, F⟩ := c
  intro q
  unfold Clp at q
  dsimp only at h q
  rcases q with ⟨h1, _⟩ | ⟨h1, _⟩ <;> omega
theorem TWel_u {ks vs : Nat → Int} {a b c : Tx} (h : TWel ks vs a b) (h' : TWel ks vs a c) : b = c := by
  obtain ⟨⟨m, h1⟩, h2⟩ := h
  obtain ⟨⟨k, g1⟩, g2⟩ := h'
  exact Rn_end Clp_u (Clp_e h2) (Clp_e g2) h1 g1
theorem TWel_F {ks vs : Nat → Int} {a b : Tx} (h : TWel ks vs a b) (h' : TFls ks vs a) : False := by
  obtain ⟨⟨m, h1⟩, h2⟩ := h
  obtain ⟨c, ⟨k, g1⟩, g2, g3⟩ := h'
  have := Rn_end Clp_u (Clp_e h2) g3 h1 g1
  subst this
  exact g2 h2
/-- where the reading of a text is stuck -/
theorem TF_5a {ks vs : Nat → Int} {i : Nat} {E : Env1} {F : Int → Int} (h : ks i = 5) (hn : ¬ (ks (i + 1) = 2 ∧ ks (i + 2) = 61)) : TFls ks vs (i, E, F) := by
  refine ⟨(i, E, F), RGo_rf, by show ks i ≠ 0; omega, fun d q => ?_⟩
  unfold Clp at q
  dsimp only at q
  rcases q with ⟨_, h2, h3, _⟩ | ⟨h1, _⟩
  · exact hn ⟨h2, h3⟩
  · omega
theorem TF_5b {ks vs : Nat → Int} {i : Nat} {E : Env1} {F : Int → Int} (h : ks i = 5) (hn : Fls ks vs E (Cf0 (i + 3))) : TFls ks vs (i, E, F) := by
  refine ⟨(i, E, F), RGo_rf, by show ks i ≠ 0; omega, fun d q => ?_⟩
  unfold Clp at q
  dsimp only at q
  rcases q with ⟨_, h2, h3, ic, t, o, mt, w, st, op, dg, h4, h5, h6⟩ | ⟨h1, _⟩
  · exact Wel_F h4 hn
  · omega
theorem TF_5c {ks vs : Nat → Int} {i ic : Nat} {E : Env1} {F : Int → Int} {t o mt : Int} {w st op dg : Int → Int} (h : ks i = 5) (hw : Wel ks vs E (Cf0 (i + 3)) (ic, 0, t, o, mt, 1, w, st, op, dg)) (hn : ks ic ≠ 59) : TFls ks vs (i, E, F) := by
  refine ⟨(i, E, F), RGo_rf, by show ks i ≠ 0; omega, fun d q => ?_⟩
  unfold Clp at q
  dsimp only at q
  rcases q with ⟨_, h2, h3, ic', t', o', mt', w', st', op', dg', h4, h5, h6⟩ | ⟨h1, _⟩
  · have := Wel_u hw h4
    cases this
    exact hn h5
  · omega
theorem TF_6a {ks vs : Nat → Int} {i n : Nat} {E : Env1} {F : Int → Int} (h : ks i = 6) (hm : ∀ k : Nat, 1 ≤ k → k ≤ n → Mrk (ks (i + k))) (hn : ¬ Mrk (ks (i + n + 1))) (hf : n = 0 ∨ ks (i + n + 1) ≠ 59) : TFls ks vs (i, E, F) := by
  refine ⟨(i, E, F), RGo_rf, by show ks i ≠ 0; omega, fun d q => ?_⟩
  unfold Clp at q
  dsimp only at q
  rcases q with ⟨h1, _⟩ | ⟨_, m, h2, h3, h4, h5, h6⟩
  · omega
  · have e : m = n := by
      rcases Nat.lt_trichotomy m n with q | q | q
      · have := hm (m + 1) (by omega) (by omega)
        rw [show i + (m + 1) = i + m + 1 by omega, h5] at this
        unfold Mrk at this
        omega
      · exact q
      · have := h4 (n + 1) (by omega) (by omega)
        rw [show i + (n + 1) = i + n + 1 by omega] at this
        exact absurd this hn
    subst e
    omega
theorem TF_6b {ks vs : Nat → Int} {i : Nat} {E : Env1} {F : Int → Int} (h : ks i = 6) (hm : ∀ k : Nat, 1 ≤ k → k ≤ 8 → Mrk (ks (i + k))) : TFls ks vs (i, E, F) := by
  refine ⟨(i, E, F), RGo_rf, by show ks i ≠ 0; omega, fun d q => ?_⟩
  unfold Clp at q
  dsimp only at q
  rcases q with ⟨h1, _⟩ | ⟨_, m, h2, h3, h4, h5, h6⟩
  · omega
  · have := hm (m + 1) (by omega) (by omega)
    rw [show i + (m + 1) = i + m + 1 by omega, h5] at this
    unfold Mrk at this
    omega
theorem TF_0 {ks vs : Nat → Int} {i : Nat} {E : Env1} {F : Int → Int} (h0 : ks i ≠ 0) (h5 : ks i ≠ 5) (h6 : ks i ≠ 6) : TFls ks vs (i, E, F) := by
  refine ⟨(i, E, F), RGo_rf, h0, fun d q => ?_⟩
  unfold Clp at q
  dsimp only at q
  rcases q with ⟨h1, _⟩ | ⟨h1, _⟩ <;> omega
theorem TF_tr {ks vs : Nat → Int} {a b : Tx} (h : TGo ks vs a b) (h' : TFls ks vs b) : TFls ks vs a := by
  obtain ⟨c', h1, h2, h3⟩ := h'
  exact ⟨c', RGo_tr h h1, h2, h3⟩
/-- the reference's rows by times -/
def RefR (R : Nat → Int32) (T : Int) (Ev : Int → Env1) : Prop := ∀ t l : Int, 0 ≤ t → t ≤ T → 0 ≤ l → l < 8 → ∀ r : Int, LatV R l t r → (r = -1 → (Ev t l).1 = 0) ∧ (0 ≤ r → (Ev t l).1 = (R r.toNat).toInt ∧ RSo R (r + 1) (Ev t l).2 (Ev t l).1)
def EOk (E : Env1) : Prop := ∀ l : Int, 0 ≤ l → l < 8 → 0 ≤ (E l).1 ∧ (E l).1 ≤ 24 ∧ ∀ b : Int, 0 ≤ b → b < (E l).1 → Srt (E l).2 b
theorem env_0 {R M C : Nat → Int32} {T : Int} {Ev : Int → Env1} (h : RefR R T Ev) (hT : 0 ≤ T) (hz : ∀ i : Int, 0 ≤ i → i < 8 → (M i.toNat).toInt = 0) : EnvF R M C T (Ev T) := by
  intro l l0 l1
  refine ⟨fun q => ?_, fun _ r hr => h T l hT (Int.le_refl _) l0 l1 r hr⟩
  have := hz l l0 l1
  omega
theorem env_set {R M C M2 C2 w : Nat → Int32} {T l t : Int} {E : Env1} {u : Int → Int} (h : EnvF R M C T E) (hb : ∀ k : Int, 0 ≤ k → k < 8 → (M k.toNat).toInt ≤ 24) (hl : 0 ≤ l ∧ l < 8) (ht : 0 < t ∧ t ≤ 24) (h1 : ∀ i : Int, 0 ≤ i → i ≠ l → M2 i.toNat = M i.toNat) (h2 : (M2 l.toNat).toInt = t) (h3 : ∀ i : Int, 0 ≤ i → (i < 144 * l ∨ 144 * l + 144 ≤ i) → C2 i.toNat = C i.toNat) (h4 : ∀ i : Int, 0 ≤ i → i < 6 * t → C2 (144 * l + i).toNat = w i.toNat) (hC : RS w u t) : EnvF R M2 C2 T (eup E l (t, u)) := by
  intro k k0 k1
  by_cases e : k = l
  · subst e
    rw [eu_s, h2]
    refine ⟨fun _ => ⟨rfl, fun c c0 c1 => ?_⟩, fun q => absurd q (by omega)⟩
    dsimp only at c1 ⊢
    rw [h4 _ (by omega) (by omega)]
    exact hC c c0 c1
  · rw [eu_n e, h1 k k0 e]
    obtain ⟨a1, a2⟩ := h k k0 k1
    refine ⟨fun q => ?_, a2⟩
    obtain ⟨b1, b2⟩ := a1 q
    have b3 := hb k k0 k1
    refine ⟨b1, fun c c0 c1 => ?_⟩
    rw [h3 _ (by omega) (by omega)]
    exact b2 c c0 c1
theorem EOk_set {E : Env1} {l t : Int} {u : Int → Int} (h : EOk E) (ht : 0 < t ∧ t ≤ 24) (hs : ∀ b : Int, 0 ≤ b → b < t → Srt u b) : EOk (eup E l (t, u)) := by
  intro k k0 k1
  by_cases e : k = l
  · rw [e, eu_s]; exact ⟨by show 0 ≤ t; omega, ht.2, hs⟩
  · rw [eu_n e]; exact h k k0 k1
/-- which letters are told in the text -/
def TF1 (M : Nat → Int32) (F : Int → Int) : Prop := ∀ l : Int, 0 ≤ l → l < 8 → (0 < (M l.toNat).toInt ↔ F l = 1)
theorem TF1_set {M M2 : Nat → Int32} {F : Int → Int} {l t : Int} (h : TF1 M F) (ht : 0 < t) (h1 : ∀ i : Int, 0 ≤ i → i ≠ l → M2 i.toNat = M i.toNat) (h2 : (M2 l.toNat).toInt = t) : TF1 M2 (fupd F l 1) := by
  intro k k0 k1
  by_cases e : k = l
  · rw [e, fu_s, h2]; exact ⟨fun _ => rfl, fun _ => ht⟩
  · rw [fu_n e, h1 k k0 e]; exact h k k0 k1
theorem LatV_ex (R : Nat → Int32) (l : Int) (n : Nat) : ∃ r, LatV R l (n : Int) r := by
  induction n with
  | zero => exact ⟨-1, Or.inl ⟨rfl, fun u h1 h2 => absurd h2 (by omega)⟩⟩
  | succ n ih =>
    by_cases e : 0 < (R (150 * (8 * ((n : Int) + 1) + l)).toNat).toInt
    · exact ⟨_, Or.inr ⟨(n : Int) + 1, by omega, by omega, rfl, e, fun v h1 h2 => absurd h2 (by omega)⟩⟩
    · obtain ⟨r, hr⟩ := ih
      refine ⟨r, ?_⟩
      rcases hr with ⟨h1, h2⟩ | ⟨u, u1, u2, u3, u4, u5⟩
      · refine Or.inl ⟨h1, fun v v1 v2 => ?_⟩
        by_cases q : v = (n : Int) + 1
        · rw [q]; omega
        · exact h2 v v1 (by omega)
      · refine Or.inr ⟨u, u1, by omega, u3, u4, fun v v1 v2 => ?_⟩
        by_cases q : v = (n : Int) + 1
        · rw [q]; omega
        · exact u5 v v1 (by omega)
