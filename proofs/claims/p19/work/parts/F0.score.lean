/-- the score's heights behind an adding: what was there, the way, the row over and over -/
def scV (w : Int → Int) (m : Int) (hs : List Nat) (i : Int) : Int := if i < (hs.length : Int) then ((hs.getD i.toNat 0 : Nat) : Int) else w (2 * ((i - (hs.length : Int)) % m))
def scX (x : Int) (hs : List Nat) (i : Int) : Int := if i < (hs.length : Int) then -1 else x
/-- behind n old ones there are k new ones -/
def ScP (ch cl c1 c2 : Nat → Int32) (n k : Int) (hv lv : Int → Int) : Prop := (∀ i : Int, 0 ≤ i → i < n → c1 i.toNat = ch i.toNat ∧ c2 i.toNat = cl i.toNat) ∧ ∀ i : Int, 0 ≤ i → i < k → (c1 (n + i).toNat).toInt = hv i ∧ (c2 (n + i).toNat).toInt = lv i
theorem ScP_0 {ch cl : Nat → Int32} {n k : Int} {hv lv : Int → Int} (h : k ≤ 0) : ScP ch cl ch cl n k hv lv := ⟨fun _ _ _ => ⟨rfl, rfl⟩, fun i i0 i1 => absurd i1 (by omega)⟩
theorem ScP_tr {ch cl c1 c2 d1 d2 : Nat → Int32} {n k p m q : Int} {hv lv hv2 lv2 : Int → Int} (h : ScP ch cl c1 c2 n k hv lv) (h2 : ScP c1 c2 d1 d2 p m hv2 lv2) (hp : p = n + k) (hq : q = k + m) (n0 : 0 ≤ n) (k0 : 0 ≤ k) (e : ∀ i : Int, 0 ≤ i → i < m → hv2 i = hv (k + i) ∧ lv2 i = lv (k + i)) : ScP ch cl d1 d2 n q hv lv := by
  refine ⟨fun i i0 i1 => ?_, fun i i0 i1 => ?_⟩
  · obtain ⟨a, b⟩ := h2.1 i i0 (by omega)
    obtain ⟨c, d⟩ := h.1 i i0 i1
    exact ⟨a.trans c, b.trans d⟩
  · by_cases r : i < k
    · obtain ⟨a, b⟩ := h2.1 (n + i) (by omega) (by omega)
      rw [a, b]; exact h.2 i i0 r
    · obtain ⟨a, b⟩ := h2.2 (i - k) (by omega) (by omega)
      obtain ⟨c, d⟩ := e (i - k) (by omega) (by omega)
      rw [show p + (i - k) = n + i by omega] at a b
      rw [show k + (i - k) = i by omega] at c d
      exact ⟨a.trans c, b.trans d⟩
theorem ScP_1 {ch cl c1 c2 : Nat → Int32} {n : Int} {x y : Int32} {k : Nat} (n0 : 0 ≤ n) (hk : k = n.toNat) (e1 : c1 = upd ch k x) (e2 : c2 = upd cl k y) : ScP ch cl c1 c2 n 1 (fun _ => x.toInt) (fun _ => y.toInt) := by
  subst hk
  refine ⟨fun i i0 i1 => ?_, fun i i0 i1 => ?_⟩
  · rw [e1, e2, un_i i0 n0 (by omega), un_i i0 n0 (by omega)]; exact ⟨rfl, rfl⟩
  · rw [show n + i = n by omega, e1, e2, pk_us, pk_us]; exact ⟨rfl, rfl⟩
/-- which way leads there -/
def scW (S : Int32) (n : Int) (M : Nat) (hs : List Nat) : Prop := (n = 0 ∧ hs = []) ∨ (0 < n ∧ ∃ a : Nat, a < 512 ∧ S = nI a ∧ IsWay a M hs)
/-- a row that can be added -/
def scK (e : Int × (Int → Int)) (x t : Int) : Prop := (0 ≤ x ∧ x < 8) ∧ 0 < e.1 ∧ plW e.2 0 e.1 ∧ GdW e.2 e.1 ∧ 1 ≤ t ∧ t ≤ 50
/-- what add does -/
def AddS (e : Int × (Int → Int)) (x t n : Int) (S : Int32) (ch cl : Nat → Int32) (r n1 : Int) (S1 : Int32) (c1 c2 : Nat → Int32) : Prop :=
  (∃ (M : Nat) (hs : List Nat), scK e x t ∧ StM e.2 e.1 0 M ∧ scW S n M hs ∧ n + (hs.length : Int) + t * e.1 ≤ 300 ∧ r = n + (hs.length : Int) + t * e.1 ∧ n1 = r ∧ S1 = nI M ∧ ScP ch cl c1 c2 n ((hs.length : Int) + t * e.1) (scV e.2 e.1 hs) (scX x hs)) ∨
  ((¬ scK e x t ∨ (scK e x t ∧ ∃ M : Nat, StM e.2 e.1 0 M ∧ ((0 < n ∧ ∃ a : Nat, a < 512 ∧ S = nI a ∧ ¬ ∃ hs, jrun a hs = some M) ∨ ∃ hs : List Nat, scW S n M hs ∧ 300 < n + (hs.length : Int) + t * e.1))) ∧ r = -1 ∧ n1 = n ∧ S1 = S ∧ c1 = ch ∧ c2 = cl)
theorem nI_ij {a b : Nat} (ha : a < 512) (hb : b < 512) (h : nI a = nI b) : a = b := by
  have e : (nI a).toInt = (nI b).toInt := by rw [h]
  rw [nI_toInt (by omega), nI_toInt (by omega)] at e
  omega
theorem scW_u {S S' : Int32} {n : Int} {M : Nat} {hs hs' : List Nat} (hS : 0 < n → S = S') (h : scW S n M hs) (h' : scW S' n M hs') : hs = hs' := by
  rcases h with ⟨a1, a2⟩ | ⟨a1, a, a2, a3, a4⟩ <;> rcases h' with ⟨b1, b2⟩ | ⟨b1, b, b2, b3, b4⟩
  · rw [a2, b2]
  · omega
  · omega
  · have e := hS a1
    rw [a3, b3] at e
    have e := nI_ij a2 b2 e
    subst e
    exact IsWay.uniq a4 b4
theorem scW_n {S S' : Int32} {n : Int} {M a : Nat} {hs : List Nat} (hS : 0 < n → S = S') (hn : 0 < n) (h : scW S n M hs) (ha : a < 512) (e : S' = nI a) (hno : ¬ ∃ hs, jrun a hs = some M) : False := by
  rcases h with ⟨a1, a2⟩ | ⟨a1, b, b2, b3, b4⟩
  · omega
  · have e1 := hS a1
    rw [b3, e] at e1
    have e1 := nI_ij b2 ha e1
    subst e1
    exact hno ⟨hs, b4.1⟩
/-- there is one outcome -/
theorem AddS_u {e : Int × (Int → Int)} {x t n r n1 r' n1' : Int} {S S1 S' S1' : Int32} {ch cl c1 c2 ch' cl' c1' c2' : Nat → Int32} (n0 : 0 ≤ n) (hS : 0 < n → S = S') (hc : ∀ i : Int, 0 ≤ i → i < n → ch i.toNat = ch' i.toNat ∧ cl i.toNat = cl' i.toNat) (h : AddS e x t n S ch cl r n1 S1 c1 c2) (h' : AddS e x t n S' ch' cl' r' n1' S1' c1' c2') : r = r' ∧ n1 = n1' ∧ (0 < n1 → S1 = S1') ∧ ∀ i : Int, 0 ≤ i → i < n1 → c1 i.toNat = c1' i.toNat ∧ c2 i.toNat = c2' i.toNat := by
  rcases h with ⟨M, hs, a1, a2, a3, a4, a5, a6, a7, a8⟩ | ⟨a1, a2, a3, a4, a5, a6⟩ <;> rcases h' with ⟨N, hs', b1, b2, b3, b4, b5, b6, b7, b8⟩ | ⟨b1, b2, b3, b4, b5, b6⟩
  · have e1 := StM_u a2 b2
    subst e1
    have e2 := scW_u hS a3 b3
    subst e2
    refine ⟨by omega, by omega, fun _ => by rw [a7, b7], fun i i0 i1 => ?_⟩
    by_cases q : i < n
    · obtain ⟨p1, p2⟩ := a8.1 i i0 q
      obtain ⟨p3, p4⟩ := b8.1 i i0 q
      obtain ⟨p5, p6⟩ := hc i i0 q
      exact ⟨by rw [p1, p3, p5], by rw [p2, p4, p6]⟩
    · obtain ⟨p1, p2⟩ := a8.2 (i - n) (by omega) (by omega)
      obtain ⟨p3, p4⟩ := b8.2 (i - n) (by omega) (by omega)
      rw [show n + (i - n) = i by omega] at p1 p2 p3 p4
      exact ⟨Int32.toInt_inj.mp (p1.trans p3.symm), Int32.toInt_inj.mp (p2.trans p4.symm)⟩
  · exfalso
    rcases b1 with b1 | ⟨-, N, b7, b8⟩
    · exact b1 a1
    · have e1 := StM_u a2 b7
      subst e1
      rcases b8 with ⟨c1, a, c2, c3, c4⟩ | ⟨hs', c1, c2⟩
      · exact scW_n hS c1 a3 c2 c3 c4
      · have e2 := scW_u hS a3 c1
        subst e2
        omega
  · exfalso
    rcases a1 with a1 | ⟨-, N, a7, a8⟩
    · exact a1 b1
    · have e1 := StM_u b2 a7
      subst e1
      rcases a8 with ⟨c1, a, c2, c3, c4⟩ | ⟨hs', c1, c2⟩
      · exact scW_n (fun q => (hS q).symm) c1 b3 c2 c3 c4
      · have e2 := scW_u hS c1 b3
        subst e2
        omega
  · refine ⟨by omega, by omega, fun q => by rw [a4, b4]; exact hS (by omega), fun i i0 i1 => ?_⟩
    rw [a5, a6, b5, b6]; exact hc i i0 (by omega)
/-- what score answers -/
def ScR (n : Int) (ch cl : Nat → Int32) (x y : Int) (r : Int32) : Prop := (¬ (0 ≤ x ∧ x < n) ∧ r = -1) ∨ ((0 ≤ x ∧ x < n) ∧ ((y = 0 ∧ r = ch x.toNat) ∨ (y = 1 ∧ r = cl x.toNat) ∨ (y ≠ 0 ∧ y ≠ 1 ∧ r = -1)))
theorem ScR_u {n x y : Int} {ch cl ch' cl' : Nat → Int32} {r r' : Int32} (hc : ∀ i : Int, 0 ≤ i → i < n → ch i.toNat = ch' i.toNat ∧ cl i.toNat = cl' i.toNat) (h : ScR n ch cl x y r) (h' : ScR n ch' cl' x y r') : r = r' := by
  rcases h with ⟨a1, a2⟩ | ⟨a1, a2⟩ <;> rcases h' with ⟨b1, b2⟩ | ⟨b1, b2⟩
  · rw [a2, b2]
  · exact absurd b1 a1
  · exact absurd a1 b1
  · obtain ⟨p1, p2⟩ := hc x a1.1 a1.2
    rcases a2 with ⟨a2, a3⟩ | ⟨a2, a3⟩ | ⟨a2, a3, a4⟩ <;> rcases b2 with ⟨b2, b3⟩ | ⟨b2, b3⟩ | ⟨b2, b3, b4⟩
    · rw [a3, b3, p1]
    · omega
    · omega
    · omega
    · rw [a3, b3, p2]
    · omega
    · omega
    · omega
    · rw [a4, b4]
/-- the sheet holds -/
def ShX (cI : ClassId) (g : Nat → Nat) (f : Nat → va_E) (ln st : Int32) (c1 c2 : Nat → Int32) : Prop := f (g 17) = .inr (6, [.ref (g 44), .ref (g 45), .int ln, .int st]) ∧ f (g 44) = .inl (cI, 300, .inl c1) ∧ f (g 45) = .inl (cI, 300, .inl c2)
theorem ShX_fr {cI : ClassId} {g : Nat → Nat} {L : List Nat} {S : Sg} {f f1 : Nat → va_E} {T : List Nat} {ln st : Int32} {c1 c2 : Nat → Int32} (h : ShX cI g f ln st c1 c2) (hG : SG g L S) (hF : FR S T f f1) (ht : ∀ t ∈ ([17, 44, 45] : List Nat), t ∉ T) : ShX cI g f1 ln st c1 c2 :=
  ⟨(hF _ (by rw [gs_17 hG]; exact ht 17 (by decide))).trans h.1, (hF _ (by rw [gs_44 hG]; exact ht 44 (by decide))).trans h.2.1, (hF _ (by rw [gs_45 hG]; exact ht 45 (by decide))).trans h.2.2⟩
theorem ShX_frx {cI : ClassId} {g : Nat → Nat} {L : List Nat} {S : Sg} {f f1 : Nat → va_E} {T : List Nat} {ln st : Int32} {c1 c2 : Nat → Int32} (h : ShX cI g f ln st c1 c2) (hG : SG g L S) (hF : FRX L S T f f1) (ht : ∀ t ∈ ([17, 44, 45] : List Nat), t ∉ T) : ShX cI g f1 ln st c1 c2 :=
  ⟨(hF _ (gm_17 hG) (by rw [gs_17 hG]; exact ht 17 (by decide))).trans h.1, (hF _ (gm_44 hG) (by rw [gs_44 hG]; exact ht 44 (by decide))).trans h.2.1, (hF _ (gm_45 hG) (by rw [gs_45 hG]; exact ht 45 (by decide))).trans h.2.2⟩
theorem ShX_u {cI : ClassId} {g : Nat → Nat} {f : Nat → va_E} {ln st ln' st' : Int32} {c1 c2 c1' c2' : Nat → Int32} (h : ShX cI g f ln st c1 c2) (h' : ShX cI g f ln' st' c1' c2') : ln = ln' ∧ st = st' ∧ c1 = c1' ∧ c2 = c2' := by
  obtain ⟨a1, a2, a3⟩ := h
  obtain ⟨b1, b2, b3⟩ := h'
  rw [b1] at a1
  rw [b2] at a2
  rw [b3] at a3
  cases a1
  cases a2
  cases a3
  exact ⟨rfl, rfl, rfl, rfl⟩
/-- both sides' scores are alike -/
def SCx (cI : ClassId) (g : Nat → Nat) (f : Nat → va_E) (x18 x20 : Int32) (f21 f22 : Nat → Int32) : Prop := ∃ (st : Int32) (ch cl : Nat → Int32), ShX cI g f x18 st ch cl ∧ (0 < x18.toInt → st = x20) ∧ ∀ i : Int, 0 ≤ i → i < x18.toInt → ch i.toNat = f21 i.toNat ∧ cl i.toNat = f22 i.toNat
theorem SCx_fr {cI : ClassId} {g : Nat → Nat} {L : List Nat} {S : Sg} {f f1 : Nat → va_E} {T : List Nat} {x18 x20 : Int32} {f21 f22 : Nat → Int32} (h : SCx cI g f x18 x20 f21 f22) (hG : SG g L S) (hF : FR S T f f1) (ht : ∀ t ∈ ([17, 44, 45] : List Nat), t ∉ T) : SCx cI g f1 x18 x20 f21 f22 := by
  obtain ⟨st, ch, cl, h1, h2⟩ := h
  exact ⟨st, ch, cl, ShX_fr h1 hG hF ht, h2⟩
theorem SCx_frx {cI : ClassId} {g : Nat → Nat} {L : List Nat} {S : Sg} {f f1 : Nat → va_E} {T : List Nat} {x18 x20 : Int32} {f21 f22 : Nat → Int32} (h : SCx cI g f x18 x20 f21 f22) (hG : SG g L S) (hF : FRX L S T f f1) (ht : ∀ t ∈ ([17, 44, 45] : List Nat), t ∉ T) : SCx cI g f1 x18 x20 f21 f22 := by
  obtain ⟨st, ch, cl, h1, h2⟩ := h
  exact ⟨st, ch, cl, ShX_frx h1 hG hF ht, h2⟩
theorem RWf_fr {cI : ClassId} {jn : Nat} {S : Sg} {T : List Nat} {f f1 : Nat → va_E} {b : Nat} {n : Int} {w : Int → Int} (h : RWf cI jn S f b n w) (hf : FR S T f f1) (ht : 0 ∉ T ∧ 1 ∉ T) : RWf cI jn S f1 b n w := by
  obtain ⟨p9, N9, l9, c9, a1, a2, a3, a4, a5, a6⟩ := h
  exact ⟨p9, N9, l9, c9, a1, a2, (hf b (by rw [a1]; exact ht.1)).trans a3, (hf p9 (by rw [a2]; exact ht.2)).trans a4, a5, a6⟩
/-- what the class's search leaves -/
def Fnd (S : Int32) (n : Int) (M : Nat) (r : Int) (v : Nat → Int32) : Prop := (0 < n ∧ r = -1 ∧ ∃ a : Nat, a < 512 ∧ S = nI a ∧ ¬ ∃ hs, jrun a hs = some M) ∨ ∃ hs : List Nat, scW S n M hs ∧ r = (hs.length : Int) ∧ hs.length < 512 ∧ ∀ j, j < hs.length → v j = nI (hs.getD j 0)
theorem scV_1 {w : Int → Int} {m x : Int} {hs : List Nat} {v : Nat → Int32} {z : Int32} {k : Int} (hw : ∀ h ∈ hs, h < 10) (hv : ∀ j, j < hs.length → v j = nI (hs.getD j 0)) (k0 : 0 ≤ k) (k1 : k < (hs.length : Int)) (hz : z = v k.toNat) : ∀ i : Int, 0 ≤ i → i < 1 → (fun _ => z.toInt) i = scV w m hs (k + i) ∧ (fun _ => ((-1 : Int32)).toInt) i = scX x hs (k + i) := fun i i0 i1 => by
  have e : i = 0 := by omega
  subst e
  show z.toInt = scV w m hs (k + 0) ∧ ((-1 : Int32)).toInt = scX x hs (k + 0)
  rw [Int.add_zero]
  unfold scV scX
  rw [if_pos k1, if_pos k1, hz, hv k.toNat (by omega)]
  have hl : k.toNat < hs.length := by omega
  have h9 : hs.getD k.toNat 0 < 10 := by
    rw [List.getD_eq_getElem?_getD, List.getElem?_eq_getElem hl]
    exact hw _ (List.getElem_mem hl)
  exact ⟨nI_toInt (by omega), by decide⟩
theorem scV_m {w : Int → Int} {m x j : Int} {hs : List Nat} (m0 : 0 < m) (j0 : 0 ≤ j) (i : Int) (i0 : 0 ≤ i) (i1 : i < m) : w (2 * i) = scV w m hs ((hs.length : Int) + j * m + i) ∧ x = scX x hs ((hs.length : Int) + j * m + i) := by
  have q := Int.mul_nonneg j0 (Int.le_of_lt m0)
  unfold scV scX
  rw [if_neg (by omega), if_neg (by omega)]
  refine ⟨?_, rfl⟩
  rw [show (hs.length : Int) + j * m + i - (hs.length : Int) = i + j * m by omega, Int.add_mul_emod_self_right, Int.emod_eq_of_lt i0 i1]
