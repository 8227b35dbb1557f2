/-- the class's heap by kinds of cells: L its addresses, S what kind each is of, f what each holds -/
abbrev Sg : Type := Nat → Nat × Nat × Nat
def isRow (L : List Nat) (S : Sg) (r p n : Nat) : Prop := r ∈ L ∧ S r = (0, p, n)
def isMk (L : List Nat) (S : Sg) (r p : Nat) : Prop := r ∈ L ∧ S r = (2, p, 0)
/-- a row's cells: 0, or a throw to a juggler that is there -/
def cOK (jn n : Nat) (c : Nat → Int32) : Prop := ∀ i : Int, 0 ≤ i → i < n → 0 ≤ (c i.toNat).toInt ∧ (c i.toNat).toInt < 40 ∧ ((c i.toNat).toInt = 0 ∨ 3 - (c i.toNat).toInt % 4 < jn)
def okE (jn : Nat) (cI cR cM : ClassId) (g : Nat → Nat) (L : List Nat) (S : Sg) (a : Nat) (q : Nat × Nat × Nat) (e : va_E) : Prop := match q with
  | (0, p, n) => ∃ len : Int32, e = .inr (5, [.int (nI jn), .int (nI (2 * jn)), .ref p, .int len]) ∧ (0 ≤ len.toInt) ∧ (len.toInt * (2 * (jn : Int)) ≤ (n : Int)) ∧ (n ≤ 144) ∧ (p ∈ L) ∧ (S p = (1, n, a))
  | (1, p, _) => ∃ c : Nat → Int32, e = .inl (cI, p, .inl c) ∧ (cOK jn p c)
  | (2, p, _) => ∃ cnt : Int32, e = .inr (3, [.ref p, .int cnt]) ∧ (0 ≤ cnt.toInt) ∧ (cnt.toInt ≤ 7) ∧ (p ∈ L) ∧ (S p = (3, 0, a))
  | (3, _, _) => ∃ c : Nat → Int32, e = .inl (cI, 7, .inl c)
  | (10, _, _) => e = .inr (10, [.int (nI jn), .ref (g 11), .ref (g 12), .ref (g 13), .ref (g 15), .ref (g 16), .ref (g 17), .ref (g 18)])
  | (11, _, _) => ∃ len : Int32, e = .inr (7, [.ref (g 30), .int len]) ∧ (0 ≤ len.toInt) ∧ (len.toInt ≤ 300)
  | (12, _, _) => ∃ tm : Int32, ∃ lk : Int32, e = .inr (0, [.ref (g 20), .ref (g 21), .int tm, .int lk]) ∧ (0 ≤ lk.toInt) ∧ (lk.toInt ≤ tm.toInt) ∧ (tm.toInt ≤ 60)
  | (13, _, _) => ∃ fa : Int32, ∃ pl : Int32, e = .inr (4, [.int (nI jn), .ref (g 14), .ref (g 12), .ref (g 22), .ref (g 34), .ref (g 23), .ref (g 24), .ref (g 25), .ref (g 26), .int fa, .int pl])
  | (14, _, _) => ∃ cnt : Int32, ∃ nx : Int32, ∃ kd : Int32, ∃ vl : Int32, ∃ st : Int32, ∃ ls : Int32, e = .inr (8, [.ref (g 11), .ref (g 31), .ref (g 32), .ref (g 33), .int cnt, .int nx, .int kd, .int vl, .int st, .int ls]) ∧ (0 ≤ cnt.toInt) ∧ (cnt.toInt ≤ 301) ∧ (0 ≤ nx.toInt)
  | (15, _, _) => ∃ cnt : Int32, ∃ rw : Option Nat, e = .inr (1, [.ref (g 35), .ref (g 27), .ref (g 36), .ref (g 37), .ref (g 38), .ref (g 39), .int cnt, va_rf rw]) ∧ (0 ≤ cnt.toInt) ∧ (cnt.toInt ≤ 144) ∧ (∀ r, rw = some r → ∃ p n, isRow L S r p n)
  | (16, _, _) => e = .inr (9, [.ref (g 40), .ref (g 41), .ref (g 42), .ref (g 43)])
  | (17, _, _) => ∃ len : Int32, ∃ st : Int32, e = .inr (6, [.ref (g 44), .ref (g 45), .int len, .int st]) ∧ (0 ≤ len.toInt) ∧ (len.toInt ≤ 300)
  | (18, _, _) => e = .inr (2, [.ref (g 46), .ref (g 47)])
  | (20, _, _) => ∃ c : Nat → Option Nat, e = .inl (cR, 488, .inr (.inr (.inr (.inr c)))) ∧ (∀ i : Int, 0 ≤ i → i < 488 → ∀ r, c i.toNat = some r → ∃ p n, isRow L S r p n)
  | (21, _, _) => ∃ c : Nat → Option Nat, e = .inl (cM, 61, .inr (.inr (.inr (.inr c)))) ∧ (∀ i : Int, 0 ≤ i → i < 61 → ∀ r, c i.toNat = some r → ∃ p, isMk L S r p)
  | (22, _, _) => ∃ c : Nat → Option Nat, e = .inl (cR, 6, .inr (.inr (.inr (.inr c)))) ∧ (∀ i : Int, 0 ≤ i → i < 6 → ∃ r p n, c i.toNat = some r ∧ isRow L S r p n)
  | (23, _, _) => ∃ c : Nat → Option Nat, e = .inl (cR, 8, .inr (.inr (.inr (.inr c)))) ∧ (∀ i : Int, 0 ≤ i → i < 8 → ∃ r p n, c i.toNat = some r ∧ isRow L S r p n)
  | (27, _, _) => ∃ c : Nat → Int32, e = .inl (cI, 144, .inl c) ∧ (∀ i : Int, 0 ≤ i → i < 144 → -1 ≤ (c i.toNat).toInt ∧ (c i.toNat).toInt ≤ 143)
  | (30, _, _) => ∃ c : Nat → Int32, e = .inl (cI, 300, .inl c) ∧ (∀ i : Int, 0 ≤ i → i < 300 → 0 ≤ (c i.toNat).toInt ∧ (c i.toNat).toInt ≤ 255)
  | (31, _, _) => ∃ c : Nat → Int32, e = .inl (cI, 301, .inl c)
  | (32, _, _) => ∃ c : Nat → Int32, e = .inl (cI, 301, .inl c)
  | (33, _, _) => ∃ c : Nat → Int32, e = .inl (cI, 301, .inl c)
  | (34, _, _) => ∃ c : Nat → Int32, e = .inl (cI, 6, .inl c)
  | (35, _, _) => ∃ c : Nat → Int32, e = .inl (cI, 72, .inl c)
  | (36, _, _) => ∃ c : Nat → Int32, e = .inl (cI, 144, .inl c)
  | (37, _, _) => ∃ c : Nat → Int32, e = .inl (cI, 144, .inl c)
  | (38, _, _) => ∃ c : Nat → Int32, e = .inl (cI, 144, .inl c)
  | (39, _, _) => ∃ c : Nat → Int32, e = .inl (cI, 144, .inl c)
  | (40, _, _) => ∃ c : Nat → Int32, e = .inl (cI, 512, .inl c)
  | (41, _, _) => ∃ c : Nat → Int32, e = .inl (cI, 512, .inl c)
  | (42, _, _) => ∃ c : Nat → Int32, e = .inl (cI, 512, .inl c)
  | (43, _, _) => ∃ c : Nat → Int32, e = .inl (cI, 512, .inl c)
  | (44, _, _) => ∃ c : Nat → Int32, e = .inl (cI, 300, .inl c)
  | (45, _, _) => ∃ c : Nat → Int32, e = .inl (cI, 300, .inl c)
  | (46, _, _) => ∃ c : Nat → Int32, e = .inl (cI, 8192, .inl c)
  | (47, _, _) => ∃ c : Nat → Int32, e = .inl (cI, 7, .inl c)
  | _ => True
def SG (g : Nat → Nat) (L : List Nat) (S : Sg) : Prop := (∀ k ∈ [10, 11, 12, 13, 14, 15, 16, 17, 18, 20, 21, 22, 23, 27, 30, 31, 32, 33, 34, 35, 36, 37, 38, 39, 40, 41, 42, 43, 44, 45, 46, 47], g k ∈ L ∧ S (g k) = (k, 0, 0)) ∧ (∃ p n, isRow L S (g 24) p n) ∧ (∃ p n, isRow L S (g 25) p n) ∧ ∃ p, isMk L S (g 26) p
def IN (jn : Nat) (cI cR cM : ClassId) (g : Nat → Nat) (L : List Nat) (S : Sg) (f : Nat → va_E) : Prop := ∀ a, a ∈ L → okE jn cI cR cM g L S a (S a) (f a)
def FR (S : Sg) (T : List Nat) (f f1 : Nat → va_E) : Prop := ∀ b, (S b).1 ∉ T → f1 b = f b
theorem FR_rf {S : Sg} {T : List Nat} {f : Nat → va_E} : FR S T f f := fun _ _ => rfl
theorem FR_set {S : Sg} {T : List Nat} {f0 f f1 : Nat → va_E} {a : Nat} {q : Nat × Nat × Nat} (h : FR S T f0 f) (hs : S a = q) (ht : q.1 ∈ T) (o1 : ∀ b, b ≠ a → f1 b = f b) : FR S T f0 f1 := fun b hb => by
  rw [o1 b (fun e => hb (by rw [e, hs]; exact ht))]
  exact h b hb
theorem FR_tr {S : Sg} {T T1 : List Nat} {f0 f f1 : Nat → va_E} (h : FR S T f0 f) (h1 : FR S T1 f f1) (ht : ∀ t ∈ T1, t ∈ T) : FR S T f0 f1 := fun b hb => by
  rw [h1 b (fun e => hb (ht _ e))]
  exact h b hb
theorem FR_at {S : Sg} {T : List Nat} {f f1 : Nat → va_E} {a : Nat} {q : Nat × Nat × Nat} {e : va_E} (h : FR S T f f1) (hs : S a = q) (ht : q.1 ∉ T) (hf : f a = e) : f1 a = e := by
  rw [h a (by rw [hs]; exact ht)]
  exact hf
theorem S_ne {S : Sg} {a b : Nat} {q r : Nat × Nat × Nat} (h1 : S a = q) (h2 : S b = r) (h : q.1 ≠ r.1) : a ≠ b := fun e => h (by rw [← h1, ← h2, e])
theorem f_at {f f1 : Nat → va_E} {a b : Nat} {e : va_E} (o1 : ∀ x, x ≠ a → f1 x = f x) (h : b ≠ a) (hf : f b = e) : f1 b = e := by
  rw [o1 b h]
  exact hf
theorem IN_set {jn : Nat} {cI cR cM : ClassId} {g : Nat → Nat} {L : List Nat} {S : Sg} {f f1 : Nat → va_E} {a : Nat} {q : Nat × Nat × Nat} {e : va_E} (h : IN jn cI cR cM g L S f) (hs : S a = q) (hok : okE jn cI cR cM g L S a q e) (e1 : f1 a = e) (o1 : ∀ b, b ≠ a → f1 b = f b) : IN jn cI cR cM g L S f1 := fun b hb => by
  by_cases q : b = a
  · rw [q, hs, e1]; exact hok
  · rw [o1 b q]; exact h b hb
theorem gm_10 {g : Nat → Nat} {L : List Nat} {S : Sg} (h : SG g L S) : g 10 ∈ L := (h.1 10 (by decide)).1
theorem gs_10 {g : Nat → Nat} {L : List Nat} {S : Sg} (h : SG g L S) : S (g 10) = (10, 0, 0) := (h.1 10 (by decide)).2
theorem gm_11 {g : Nat → Nat} {L : List Nat} {S : Sg} (h : SG g L S) : g 11 ∈ L := (h.1 11 (by decide)).1
theorem gs_11 {g : Nat → Nat} {L : List Nat} {S : Sg} (h : SG g L S) : S (g 11) = (11, 0, 0) := (h.1 11 (by decide)).2
theorem gm_12 {g : Nat → Nat} {L : List Nat} {S : Sg} (h : SG g L S) : g 12 ∈ L := (h.1 12 (by decide)).1
theorem gs_12 {g : Nat → Nat} {L : List Nat} {S : Sg} (h : SG g L S) : S (g 12) = (12, 0, 0) := (h.1 12 (by decide)).2
theorem gm_13 {g : Nat → Nat} {L : List Nat} {S : Sg} (h : SG g L S) : g 13 ∈ L := (h.1 13 (by decide)).1
theorem gs_13 {g : Nat → Nat} {L : List Nat} {S : Sg} (h : SG g L S) : S (g 13) = (13, 0, 0) := (h.1 13 (by decide)).2
theorem gm_14 {g : Nat → Nat} {L : List Nat} {S : Sg} (h : SG g L S) : g 14 ∈ L := (h.1 14 (by decide)).1
theorem gs_14 {g : Nat → Nat} {L : List Nat} {S : Sg} (h : SG g L S) : S (g 14) = (14, 0, 0) := (h.1 14 (by decide)).2
theorem gm_15 {g : Nat → Nat} {L : List Nat} {S : Sg} (h : SG g L S) : g 15 ∈ L := (h.1 15 (by decide)).1
theorem gs_15 {g : Nat → Nat} {L : List Nat} {S : Sg} (h : SG g L S) : S (g 15) = (15, 0, 0) := (h.1 15 (by decide)).2
theorem gm_16 {g : Nat → Nat} {L : List Nat} {S : Sg} (h : SG g L S) : g 16 ∈ L := (h.1 16 (by decide)).1
theorem gs_16 {g : Nat → Nat} {L : List Nat} {S : Sg} (h : SG g L S) : S (g 16) = (16, 0, 0) := (h.1 16 (by decide)).2
theorem gm_17 {g : Nat → Nat} {L : List Nat} {S : Sg} (h : SG g L S) : g 17 ∈ L := (h.1 17 (by decide)).1
theorem gs_17 {g : Nat → Nat} {L : List Nat} {S : Sg} (h : SG g L S) : S (g 17) = (17, 0, 0) := (h.1 17 (by decide)).2
theorem gm_18 {g : Nat → Nat} {L : List Nat} {S : Sg} (h : SG g L S) : g 18 ∈ L := (h.1 18 (by decide)).1
theorem gs_18 {g : Nat → Nat} {L : List Nat} {S : Sg} (h : SG g L S) : S (g 18) = (18, 0, 0) := (h.1 18 (by decide)).2
theorem gm_20 {g : Nat → Nat} {L : List Nat} {S : Sg} (h : SG g L S) : g 20 ∈ L := (h.1 20 (by decide)).1
theorem gs_20 {g : Nat → Nat} {L : List Nat} {S : Sg} (h : SG g L S) : S (g 20) = (20, 0, 0) := (h.1 20 (by decide)).2
theorem gm_21 {g : Nat → Nat} {L : List Nat} {S : Sg} (h : SG g L S) : g 21 ∈ L := (h.1 21 (by decide)).1
theorem gs_21 {g : Nat → Nat} {L : List Nat} {S : Sg} (h : SG g L S) : S (g 21) = (21, 0, 0) := (h.1 21 (by decide)).2
theorem gm_22 {g : Nat → Nat} {L : List Nat} {S : Sg} (h : SG g L S) : g 22 ∈ L := (h.1 22 (by decide)).1
theorem gs_22 {g : Nat → Nat} {L : List Nat} {S : Sg} (h : SG g L S) : S (g 22) = (22, 0, 0) := (h.1 22 (by decide)).2
theorem gm_23 {g : Nat → Nat} {L : List Nat} {S : Sg} (h : SG g L S) : g 23 ∈ L := (h.1 23 (by decide)).1
theorem gs_23 {g : Nat → Nat} {L : List Nat} {S : Sg} (h : SG g L S) : S (g 23) = (23, 0, 0) := (h.1 23 (by decide)).2
theorem gm_27 {g : Nat → Nat} {L : List Nat} {S : Sg} (h : SG g L S) : g 27 ∈ L := (h.1 27 (by decide)).1
theorem gs_27 {g : Nat → Nat} {L : List Nat} {S : Sg} (h : SG g L S) : S (g 27) = (27, 0, 0) := (h.1 27 (by decide)).2
theorem gm_30 {g : Nat → Nat} {L : List Nat} {S : Sg} (h : SG g L S) : g 30 ∈ L := (h.1 30 (by decide)).1
theorem gs_30 {g : Nat → Nat} {L : List Nat} {S : Sg} (h : SG g L S) : S (g 30) = (30, 0, 0) := (h.1 30 (by decide)).2
theorem gm_31 {g : Nat → Nat} {L : List Nat} {S : Sg} (h : SG g L S) : g 31 ∈ L := (h.1 31 (by decide)).1
theorem gs_31 {g : Nat → Nat} {L : List Nat} {S : Sg} (h : SG g L S) : S (g 31) = (31, 0, 0) := (h.1 31 (by decide)).2
theorem gm_32 {g : Nat → Nat} {L : List Nat} {S : Sg} (h : SG g L S) : g 32 ∈ L := (h.1 32 (by decide)).1
theorem gs_32 {g : Nat → Nat} {L : List Nat} {S : Sg} (h : SG g L S) : S (g 32) = (32, 0, 0) := (h.1 32 (by decide)).2
theorem gm_33 {g : Nat → Nat} {L : List Nat} {S : Sg} (h : SG g L S) : g 33 ∈ L := (h.1 33 (by decide)).1
theorem gs_33 {g : Nat → Nat} {L : List Nat} {S : Sg} (h : SG g L S) : S (g 33) = (33, 0, 0) := (h.1 33 (by decide)).2
theorem gm_34 {g : Nat → Nat} {L : List Nat} {S : Sg} (h : SG g L S) : g 34 ∈ L := (h.1 34 (by decide)).1
theorem gs_34 {g : Nat → Nat} {L : List Nat} {S : Sg} (h : SG g L S) : S (g 34) = (34, 0, 0) := (h.1 34 (by decide)).2
theorem gm_35 {g : Nat → Nat} {L : List Nat} {S : Sg} (h : SG g L S) : g 35 ∈ L := (h.1 35 (by decide)).1
theorem gs_35 {g : Nat → Nat} {L : List Nat} {S : Sg} (h : SG g L S) : S (g 35) = (35, 0, 0) := (h.1 35 (by decide)).2
theorem gm_36 {g : Nat → Nat} {L : List Nat} {S : Sg} (h : SG g L S) : g 36 ∈ L := (h.1 36 (by decide)).1
theorem gs_36 {g : Nat → Nat} {L : List Nat} {S : Sg} (h : SG g L S) : S (g 36) = (36, 0, 0) := (h.1 36 (by decide)).2
theorem gm_37 {g : Nat → Nat} {L : List Nat} {S : Sg} (h : SG g L S) : g 37 ∈ L := (h.1 37 (by decide)).1
theorem gs_37 {g : Nat → Nat} {L : List Nat} {S : Sg} (h : SG g L S) : S (g 37) = (37, 0, 0) := (h.1 37 (by decide)).2
theorem gm_38 {g : Nat → Nat} {L : List Nat} {S : Sg} (h : SG g L S) : g 38 ∈ L := (h.1 38 (by decide)).1
theorem gs_38 {g : Nat → Nat} {L : List Nat} {S : Sg} (h : SG g L S) : S (g 38) = (38, 0, 0) := (h.1 38 (by decide)).2
theorem gm_39 {g : Nat → Nat} {L : List Nat} {S : Sg} (h : SG g L S) : g 39 ∈ L := (h.1 39 (by decide)).1
theorem gs_39 {g : Nat → Nat} {L : List Nat} {S : Sg} (h : SG g L S) : S (g 39) = (39, 0, 0) := (h.1 39 (by decide)).2
theorem gm_40 {g : Nat → Nat} {L : List Nat} {S : Sg} (h : SG g L S) : g 40 ∈ L := (h.1 40 (by decide)).1
theorem gs_40 {g : Nat → Nat} {L : List Nat} {S : Sg} (h : SG g L S) : S (g 40) = (40, 0, 0) := (h.1 40 (by decide)).2
theorem gm_41 {g : Nat → Nat} {L : List Nat} {S : Sg} (h : SG g L S) : g 41 ∈ L := (h.1 41 (by decide)).1
theorem gs_41 {g : Nat → Nat} {L : List Nat} {S : Sg} (h : SG g L S) : S (g 41) = (41, 0, 0) := (h.1 41 (by decide)).2
theorem gm_42 {g : Nat → Nat} {L : List Nat} {S : Sg} (h : SG g L S) : g 42 ∈ L := (h.1 42 (by decide)).1
theorem gs_42 {g : Nat → Nat} {L : List Nat} {S : Sg} (h : SG g L S) : S (g 42) = (42, 0, 0) := (h.1 42 (by decide)).2
theorem gm_43 {g : Nat → Nat} {L : List Nat} {S : Sg} (h : SG g L S) : g 43 ∈ L := (h.1 43 (by decide)).1
theorem gs_43 {g : Nat → Nat} {L : List Nat} {S : Sg} (h : SG g L S) : S (g 43) = (43, 0, 0) := (h.1 43 (by decide)).2
theorem gm_44 {g : Nat → Nat} {L : List Nat} {S : Sg} (h : SG g L S) : g 44 ∈ L := (h.1 44 (by decide)).1
theorem gs_44 {g : Nat → Nat} {L : List Nat} {S : Sg} (h : SG g L S) : S (g 44) = (44, 0, 0) := (h.1 44 (by decide)).2
theorem gm_45 {g : Nat → Nat} {L : List Nat} {S : Sg} (h : SG g L S) : g 45 ∈ L := (h.1 45 (by decide)).1
theorem gs_45 {g : Nat → Nat} {L : List Nat} {S : Sg} (h : SG g L S) : S (g 45) = (45, 0, 0) := (h.1 45 (by decide)).2
theorem gm_46 {g : Nat → Nat} {L : List Nat} {S : Sg} (h : SG g L S) : g 46 ∈ L := (h.1 46 (by decide)).1
theorem gs_46 {g : Nat → Nat} {L : List Nat} {S : Sg} (h : SG g L S) : S (g 46) = (46, 0, 0) := (h.1 46 (by decide)).2
theorem gm_47 {g : Nat → Nat} {L : List Nat} {S : Sg} (h : SG g L S) : g 47 ∈ L := (h.1 47 (by decide)).1
theorem gs_47 {g : Nat → Nat} {L : List Nat} {S : Sg} (h : SG g L S) : S (g 47) = (47, 0, 0) := (h.1 47 (by decide)).2
theorem op_0 {jn : Nat} {cI cR cM : ClassId} {g : Nat → Nat} {L : List Nat} {S : Sg} {f : Nat → va_E} {a p n : Nat} (h : IN jn cI cR cM g L S f) (hm : a ∈ L) (hs : S a = (0, p, n)) : ∃ len : Int32, f a = .inr (5, [.int (nI jn), .int (nI (2 * jn)), .ref p, .int len]) ∧ (0 ≤ len.toInt) ∧ (len.toInt * (2 * (jn : Int)) ≤ (n : Int)) ∧ (n ≤ 144) ∧ (p ∈ L) ∧ (S p = (1, n, a)) := by
  have q := h a hm
  rw [hs] at q
  exact q
theorem mk_0 {jn : Nat} {cI cR cM : ClassId} {g : Nat → Nat} {L : List Nat} {S : Sg} {a p n : Nat} {len : Int32} (h0 : 0 ≤ len.toInt) (h1 : len.toInt * (2 * (jn : Int)) ≤ (n : Int)) (h2 : n ≤ 144) (h3 : p ∈ L) (h4 : S p = (1, n, a)) : okE jn cI cR cM g L S a (0, p, n) (.inr (5, [.int (nI jn), .int (nI (2 * jn)), .ref p, .int len])) := by
  have q : ∀ e : va_E, e = .inr (5, [.int (nI jn), .int (nI (2 * jn)), .ref p, .int len]) → okE jn cI cR cM g L S a (0, p, n) e := by
    intro e he
    show ∃ len : Int32, e = .inr (5, [.int (nI jn), .int (nI (2 * jn)), .ref p, .int len]) ∧ (0 ≤ len.toInt) ∧ (len.toInt * (2 * (jn : Int)) ≤ (n : Int)) ∧ (n ≤ 144) ∧ (p ∈ L) ∧ (S p = (1, n, a))
    exact ⟨len, he, h0, h1, h2, h3, h4⟩
  exact q _ rfl
theorem op_1 {jn : Nat} {cI cR cM : ClassId} {g : Nat → Nat} {L : List Nat} {S : Sg} {f : Nat → va_E} {a p n : Nat} (h : IN jn cI cR cM g L S f) (hm : a ∈ L) (hs : S a = (1, p, n)) : ∃ c : Nat → Int32, f a = .inl (cI, p, .inl c) ∧ (cOK jn p c) := by
  have q := h a hm
  rw [hs] at q
  exact q
theorem mk_1 {jn : Nat} {cI cR cM : ClassId} {g : Nat → Nat} {L : List Nat} {S : Sg} {a p n : Nat} {c : Nat → Int32} (h0 : cOK jn p c) : okE jn cI cR cM g L S a (1, p, n) (.inl (cI, p, .inl c)) := by
  have q : ∀ e : va_E, e = .inl (cI, p, .inl c) → okE jn cI cR cM g L S a (1, p, n) e := by
    intro e he
    show ∃ c : Nat → Int32, e = .inl (cI, p, .inl c) ∧ (cOK jn p c)
    exact ⟨c, he, h0⟩
  exact q _ rfl
theorem op_2 {jn : Nat} {cI cR cM : ClassId} {g : Nat → Nat} {L : List Nat} {S : Sg} {f : Nat → va_E} {a p n : Nat} (h : IN jn cI cR cM g L S f) (hm : a ∈ L) (hs : S a = (2, p, n)) : ∃ cnt : Int32, f a = .inr (3, [.ref p, .int cnt]) ∧ (0 ≤ cnt.toInt) ∧ (cnt.toInt ≤ 7) ∧ (p ∈ L) ∧ (S p = (3, 0, a)) := by
  have q := h a hm
  rw [hs] at q
  exact q
theorem mk_2 {jn : Nat} {cI cR cM : ClassId} {g : Nat → Nat} {L : List Nat} {S : Sg} {a p n : Nat} {cnt : Int32} (h0 : 0 ≤ cnt.toInt) (h1 : cnt.toInt ≤ 7) (h2 : p ∈ L) (h3 : S p = (3, 0, a)) : okE jn cI cR cM g L S a (2, p, n) (.inr (3, [.ref p, .int cnt])) := by
  have q : ∀ e : va_E, e = .inr (3, [.ref p, .int cnt]) → okE jn cI cR cM g L S a (2, p, n) e := by
    intro e he
    show ∃ cnt : Int32, e = .inr (3, [.ref p, .int cnt]) ∧ (0 ≤ cnt.toInt) ∧ (cnt.toInt ≤ 7) ∧ (p ∈ L) ∧ (S p = (3, 0, a))
    exact ⟨cnt, he, h0, h1, h2, h3⟩
  exact q _ rfl
theorem op_3 {jn : Nat} {cI cR cM : ClassId} {g : Nat → Nat} {L : List Nat} {S : Sg} {f : Nat → va_E} {a p n : Nat} (h : IN jn cI cR cM g L S f) (hm : a ∈ L) (hs : S a = (3, p, n)) : ∃ c : Nat → Int32, f a = .inl (cI, 7, .inl c) := by
  have q := h a hm
  rw [hs] at q
  exact q
theorem mk_3 {jn : Nat} {cI cR cM : ClassId} {g : Nat → Nat} {L : List Nat} {S : Sg} {a p n : Nat} {c : Nat → Int32}  : okE jn cI cR cM g L S a (3, p, n) (.inl (cI, 7, .inl c)) := by
  have q : ∀ e : va_E, e = .inl (cI, 7, .inl c) → okE jn cI cR cM g L S a (3, p, n) e := by
    intro e he
    show ∃ c : Nat → Int32, e = .inl (cI, 7, .inl c)
    exact ⟨c, he⟩
  exact q _ rfl
theorem op_10 {jn : Nat} {cI cR cM : ClassId} {g : Nat → Nat} {L : List Nat} {S : Sg} {f : Nat → va_E} {a p n : Nat} (h : IN jn cI cR cM g L S f) (hm : a ∈ L) (hs : S a = (10, p, n)) : f a = .inr (10, [.int (nI jn), .ref (g 11), .ref (g 12), .ref (g 13), .ref (g 15), .ref (g 16), .ref (g 17), .ref (g 18)]) := by
  have q := h a hm
  rw [hs] at q
  exact q
theorem mk_10 {jn : Nat} {cI cR cM : ClassId} {g : Nat → Nat} {L : List Nat} {S : Sg} {a p n : Nat}   : okE jn cI cR cM g L S a (10, p, n) (.inr (10, [.int (nI jn), .ref (g 11), .ref (g 12), .ref (g 13), .ref (g 15), .ref (g 16), .ref (g 17), .ref (g 18)])) := by
  have q : ∀ e : va_E, e = .inr (10, [.int (nI jn), .ref (g 11), .ref (g 12), .ref (g 13), .ref (g 15), .ref (g 16), .ref (g 17), .ref (g 18)]) → okE jn cI cR cM g L S a (10, p, n) e := by
    intro e he
    show e = .inr (10, [.int (nI jn), .ref (g 11), .ref (g 12), .ref (g 13), .ref (g 15), .ref (g 16), .ref (g 17), .ref (g 18)])
    exact he
  exact q _ rfl
theorem op_11 {jn : Nat} {cI cR cM : ClassId} {g : Nat → Nat} {L : List Nat} {S : Sg} {f : Nat → va_E} {a p n : Nat} (h : IN jn cI cR cM g L S f) (hm : a ∈ L) (hs : S a = (11, p, n)) : ∃ len : Int32, f a = .inr (7, [.ref (g 30), .int len]) ∧ (0 ≤ len.toInt) ∧ (len.toInt ≤ 300) := by
  have q := h a hm
  rw [hs] at q
  exact q
theorem mk_11 {jn : Nat} {cI cR cM : ClassId} {g : Nat → Nat} {L : List Nat} {S : Sg} {a p n : Nat} {len : Int32} (h0 : 0 ≤ len.toInt) (h1 : len.toInt ≤ 300) : okE jn cI cR cM g L S a (11, p, n) (.inr (7, [.ref (g 30), .int len])) := by
  have q : ∀ e : va_E, e = .inr (7, [.ref (g 30), .int len]) → okE jn cI cR cM g L S a (11, p, n) e := by
    intro e he
    show ∃ len : Int32, e = .inr (7, [.ref (g 30), .int len]) ∧ (0 ≤ len.toInt) ∧ (len.toInt ≤ 300)
    exact ⟨len, he, h0, h1⟩
  exact q _ rfl
theorem op_12 {jn : Nat} {cI cR cM : ClassId} {g : Nat → Nat} {L : List Nat} {S : Sg} {f : Nat → va_E} {a p n : Nat} (h : IN jn cI cR cM g L S f) (hm : a ∈ L) (hs : S a = (12, p, n)) : ∃ tm : Int32, ∃ lk : Int32, f a = .inr (0, [.ref (g 20), .ref (g 21), .int tm, .int lk]) ∧ (0 ≤ lk.toInt) ∧ (lk.toInt ≤ tm.toInt) ∧ (tm.toInt ≤ 60) := by
  have q := h a hm
  rw [hs] at q
  exact q
theorem mk_12 {jn : Nat} {cI cR cM : ClassId} {g : Nat → Nat} {L : List Nat} {S : Sg} {a p n : Nat} {tm : Int32} {lk : Int32} (h0 : 0 ≤ lk.toInt) (h1 : lk.toInt ≤ tm.toInt) (h2 : tm.toInt ≤ 60) : okE jn cI cR cM g L S a (12, p, n) (.inr (0, [.ref (g 20), .ref (g 21), .int tm, .int lk])) := by
  have q : ∀ e : va_E, e = .inr (0, [.ref (g 20), .ref (g 21), .int tm, .int lk]) → okE jn cI cR cM g L S a (12, p, n) e := by
    intro e he
    show ∃ tm : Int32, ∃ lk : Int32, e = .inr (0, [.ref (g 20), .ref (g 21), .int tm, .int lk]) ∧ (0 ≤ lk.toInt) ∧ (lk.toInt ≤ tm.toInt) ∧ (tm.toInt ≤ 60)
    exact ⟨tm, lk, he, h0, h1, h2⟩
  exact q _ rfl
theorem op_13 {jn : Nat} {cI cR cM : ClassId} {g : Nat → Nat} {L : List Nat} {S : Sg} {f : Nat → va_E} {a p n : Nat} (h : IN jn cI cR cM g L S f) (hm : a ∈ L) (hs : S a = (13, p, n)) : ∃ fa : Int32, ∃ pl : Int32, f a = .inr (4, [.int (nI jn), .ref (g 14), .ref (g 12), .ref (g 22), .ref (g 34), .ref (g 23), .ref (g 24), .ref (g 25), .ref (g 26), .int fa, .int pl]) := by
  have q := h a hm
  rw [hs] at q
  exact q
theorem mk_13 {jn : Nat} {cI cR cM : ClassId} {g : Nat → Nat} {L : List Nat} {S : Sg} {a p n : Nat} {fa : Int32} {pl : Int32}  : okE jn cI cR cM g L S a (13, p, n) (.inr (4, [.int (nI jn), .ref (g 14), .ref (g 12), .ref (g 22), .ref (g 34), .ref (g 23), .ref (g 24), .ref (g 25), .ref (g 26), .int fa, .int pl])) := by
  have q : ∀ e : va_E, e = .inr (4, [.int (nI jn), .ref (g 14), .ref (g 12), .ref (g 22), .ref (g 34), .ref (g 23), .ref (g 24), .ref (g 25), .ref (g 26), .int fa, .int pl]) → okE jn cI cR cM g L S a (13, p, n) e := by
    intro e he
    show ∃ fa : Int32, ∃ pl : Int32, e = .inr (4, [.int (nI jn), .ref (g 14), .ref (g 12), .ref (g 22), .ref (g 34), .ref (g 23), .ref (g 24), .ref (g 25), .ref (g 26), .int fa, .int pl])
    exact ⟨fa, pl, he⟩
  exact q _ rfl
theorem op_14 {jn : Nat} {cI cR cM : ClassId} {g : Nat → Nat} {L : List Nat} {S : Sg} {f : Nat → va_E} {a p n : Nat} (h : IN jn cI cR cM g L S f) (hm : a ∈ L) (hs : S a = (14, p, n)) : ∃ cnt : Int32, ∃ nx : Int32, ∃ kd : Int32, ∃ vl : Int32, ∃ st : Int32, ∃ ls : Int32, f a = .inr (8, [.ref (g 11), .ref (g 31), .ref (g 32), .ref (g 33), .int cnt, .int nx, .int kd, .int vl, .int st, .int ls]) ∧ (0 ≤ cnt.toInt) ∧ (cnt.toInt ≤ 301) ∧ (0 ≤ nx.toInt) := by
  have q := h a hm
  rw [hs] at q
  exact q
theorem mk_14 {jn : Nat} {cI cR cM : ClassId} {g : Nat → Nat} {L : List Nat} {S : Sg} {a p n : Nat} {cnt : Int32} {nx : Int32} {kd : Int32} {vl : Int32} {st : Int32} {ls : Int32} (h0 : 0 ≤ cnt.toInt) (h1 : cnt.toInt ≤ 301) (h2 : 0 ≤ nx.toInt) : okE jn cI cR cM g L S a (14, p, n) (.inr (8, [.ref (g 11), .ref (g 31), .ref (g 32), .ref (g 33), .int cnt, .int nx, .int kd, .int vl, .int st, .int ls])) := by
  have q : ∀ e : va_E, e = .inr (8, [.ref (g 11), .ref (g 31), .ref (g 32), .ref (g 33), .int cnt, .int nx, .int kd, .int vl, .int st, .int ls]) → okE jn cI cR cM g L S a (14, p, n) e := by
    intro e he
    show ∃ cnt : Int32, ∃ nx : Int32, ∃ kd : Int32, ∃ vl : Int32, ∃ st : Int32, ∃ ls : Int32, e = .inr (8, [.ref (g 11), .ref (g 31), .ref (g 32), .ref (g 33), .int cnt, .int nx, .int kd, .int vl, .int st, .int ls]) ∧ (0 ≤ cnt.toInt) ∧ (cnt.toInt ≤ 301) ∧ (0 ≤ nx.toInt)
    exact ⟨cnt, nx, kd, vl, st, ls, he, h0, h1, h2⟩
  exact q _ rfl
theorem op_15 {jn : Nat} {cI cR cM : ClassId} {g : Nat → Nat} {L : List Nat} {S : Sg} {f : Nat → va_E} {a p n : Nat} (h : IN jn cI cR cM g L S f) (hm : a ∈ L) (hs : S a = (15, p, n)) : ∃ cnt : Int32, ∃ rw : Option Nat, f a = .inr (1, [.ref (g 35), .ref (g 27), .ref (g 36), .ref (g 37), .ref (g 38), .ref (g 39), .int cnt, va_rf rw]) ∧ (0 ≤ cnt.toInt) ∧ (cnt.toInt ≤ 144) ∧ (∀ r, rw = some r → ∃ p n, isRow L S r p n) := by
  have q := h a hm
  rw [hs] at q
  exact q
theorem mk_15 {jn : Nat} {cI cR cM : ClassId} {g : Nat → Nat} {L : List Nat} {S : Sg} {a p n : Nat} {cnt : Int32} {rw : Option Nat} (h0 : 0 ≤ cnt.toInt) (h1 : cnt.toInt ≤ 144) (h2 : ∀ r, rw = some r → ∃ p n, isRow L S r p n) : okE jn cI cR cM g L S a (15, p, n) (.inr (1, [.ref (g 35), .ref (g 27), .ref (g 36), .ref (g 37), .ref (g 38), .ref (g 39), .int cnt, va_rf rw])) := by
  have q : ∀ e : va_E, e = .inr (1, [.ref (g 35), .ref (g 27), .ref (g 36), .ref (g 37), .ref (g 38), .ref (g 39), .int cnt, va_rf rw]) → okE jn cI cR cM g L S a (15, p, n) e := by
    intro e he
    show ∃ cnt : Int32, ∃ rw : Option Nat, e = .inr (1, [.ref (g 35), .ref (g 27), .ref (g 36), .ref (g 37), .ref (g 38), .ref (g 39), .int cnt, va_rf rw]) ∧ (0 ≤ cnt.toInt) ∧ (cnt.toInt ≤ 144) ∧ (∀ r, rw = some r → ∃ p n, isRow L S r p n)
    exact ⟨cnt, rw, he, h0, h1, h2⟩
  exact q _ rfl
theorem op_16 {jn : Nat} {cI cR cM : ClassId} {g : Nat → Nat} {L : List Nat} {S : Sg} {f : Nat → va_E} {a p n : Nat} (h : IN jn cI cR cM g L S f) (hm : a ∈ L) (hs : S a = (16, p, n)) : f a = .inr (9, [.ref (g 40), .ref (g 41), .ref (g 42), .ref (g 43)]) := by
  have q := h a hm
  rw [hs] at q
  exact q
theorem mk_16 {jn : Nat} {cI cR cM : ClassId} {g : Nat → Nat} {L : List Nat} {S : Sg} {a p n : Nat}   : okE jn cI cR cM g L S a (16, p, n) (.inr (9, [.ref (g 40), .ref (g 41), .ref (g 42), .ref (g 43)])) := by
  have q : ∀ e : va_E, e = .inr (9, [.ref (g 40), .ref (g 41), .ref (g 42), .ref (g 43)]) → okE jn cI cR cM g L S a (16, p, n) e := by
    intro e he
    show e = .inr (9, [.ref (g 40), .ref (g 41), .ref (g 42), .ref (g 43)])
    exact he
  exact q _ rfl
theorem op_17 {jn : Nat} {cI cR cM : ClassId} {g : Nat → Nat} {L : List Nat} {S : Sg} {f : Nat → va_E} {a p n : Nat} (h : IN jn cI cR cM g L S f) (hm : a ∈ L) (hs : S a = (17, p, n)) : ∃ len : Int32, ∃ st : Int32, f a = .inr (6, [.ref (g 44), .ref (g 45), .int len, .int st]) ∧ (0 ≤ len.toInt) ∧ (len.toInt ≤ 300) := by
  have q := h a hm
  rw [hs] at q
  exact q
theorem mk_17 {jn : Nat} {cI cR cM : ClassId} {g : Nat → Nat} {L : List Nat} {S : Sg} {a p n : Nat} {len : Int32} {st : Int32} (h0 : 0 ≤ len.toInt) (h1 : len.toInt ≤ 300) : okE jn cI cR cM g L S a (17, p, n) (.inr (6, [.ref (g 44), .ref (g 45), .int len, .int st])) := by
  have q : ∀ e : va_E, e = .inr (6, [.ref (g 44), .ref (g 45), .int len, .int st]) → okE jn cI cR cM g L S a (17, p, n) e := by
    intro e he
    show ∃ len : Int32, ∃ st : Int32, e = .inr (6, [.ref (g 44), .ref (g 45), .int len, .int st]) ∧ (0 ≤ len.toInt) ∧ (len.toInt ≤ 300)
    exact ⟨len, st, he, h0, h1⟩
  exact q _ rfl
theorem op_18 {jn : Nat} {cI cR cM : ClassId} {g : Nat → Nat} {L : List Nat} {S : Sg} {f : Nat → va_E} {a p n : Nat} (h : IN jn cI cR cM g L S f) (hm : a ∈ L) (hs : S a = (18, p, n)) : f a = .inr (2, [.ref (g 46), .ref (g 47)]) := by
  have q := h a hm
  rw [hs] at q
  exact q
theorem mk_18 {jn : Nat} {cI cR cM : ClassId} {g : Nat → Nat} {L : List Nat} {S : Sg} {a p n : Nat}   : okE jn cI cR cM g L S a (18, p, n) (.inr (2, [.ref (g 46), .ref (g 47)])) := by
  have q : ∀ e : va_E, e = .inr (2, [.ref (g 46), .ref (g 47)]) → okE jn cI cR cM g L S a (18, p, n) e := by
    intro e he
    show e = .inr (2, [.ref (g 46), .ref (g 47)])
    exact he
  exact q _ rfl
theorem op_20 {jn : Nat} {cI cR cM : ClassId} {g : Nat → Nat} {L : List Nat} {S : Sg} {f : Nat → va_E} {a p n : Nat} (h : IN jn cI cR cM g L S f) (hm : a ∈ L) (hs : S a = (20, p, n)) : ∃ c : Nat → Option Nat, f a = .inl (cR, 488, .inr (.inr (.inr (.inr c)))) ∧ (∀ i : Int, 0 ≤ i → i < 488 → ∀ r, c i.toNat = some r → ∃ p n, isRow L S r p n) := by
  have q := h a hm
  rw [hs] at q
  exact q
theorem mk_20 {jn : Nat} {cI cR cM : ClassId} {g : Nat → Nat} {L : List Nat} {S : Sg} {a p n : Nat} {c : Nat → Option Nat} (h0 : ∀ i : Int, 0 ≤ i → i < 488 → ∀ r, c i.toNat = some r → ∃ p n, isRow L S r p n) : okE jn cI cR cM g L S a (20, p, n) (.inl (cR, 488, .inr (.inr (.inr (.inr c))))) := by
  have q : ∀ e : va_E, e = .inl (cR, 488, .inr (.inr (.inr (.inr c)))) → okE jn cI cR cM g L S a (20, p, n) e := by
    intro e he
    show ∃ c : Nat → Option Nat, e = .inl (cR, 488, .inr (.inr (.inr (.inr c)))) ∧ (∀ i : Int, 0 ≤ i → i < 488 → ∀ r, c i.toNat = some r → ∃ p n, isRow L S r p n)
    exact ⟨c, he, h0⟩
  exact q _ rfl
theorem op_21 {jn : Nat} {cI cR cM : ClassId} {g : Nat → Nat} {L : List Nat} {S : Sg} {f : Nat → va_E} {a p n : Nat} (h : IN jn cI cR cM g L S f) (hm : a ∈ L) (hs : S a = (21, p, n)) : ∃ c : Nat → Option Nat, f a = .inl (cM, 61, .inr (.inr (.inr (.inr c)))) ∧ (∀ i : Int, 0 ≤ i → i < 61 → ∀ r, c i.toNat = some r → ∃ p, isMk L S r p) := by
  have q := h a hm
  rw [hs] at q
  exact q
theorem mk_21 {jn : Nat} {cI cR cM : ClassId} {g : Nat → Nat} {L : List Nat} {S : Sg} {a p n : Nat} {c : Nat → Option Nat} (h0 : ∀ i : Int, 0 ≤ i → i < 61 → ∀ r, c i.toNat = some r → ∃ p, isMk L S r p) : okE jn cI cR cM g L S a (21, p, n) (.inl (cM, 61, .inr (.inr (.inr (.inr c))))) := by
  have q : ∀ e : va_E, e = .inl (cM, 61, .inr (.inr (.inr (.inr c)))) → okE jn cI cR cM g L S a (21, p, n) e := by
    intro e he
    show ∃ c : Nat → Option Nat, e = .inl (cM, 61, .inr (.inr (.inr (.inr c)))) ∧ (∀ i : Int, 0 ≤ i → i < 61 → ∀ r, c i.toNat = some r → ∃ p, isMk L S r p)
    exact ⟨c, he, h0⟩
  exact q _ rfl
theorem op_22 {jn : Nat} {cI cR cM : ClassId} {g : Nat → Nat} {L : List Nat} {S : Sg} {f : Nat → va_E} {a p n : Nat} (h : IN jn cI cR cM g L S f) (hm : a ∈ L) (hs : S a = (22, p, n)) : ∃ c : Nat → Option Nat, f a = .inl (cR, 6, .inr (.inr (.inr (.inr c)))) ∧ (∀ i : Int, 0 ≤ i → i < 6 → ∃ r p n, c i.toNat = some r ∧ isRow L S r p n) := by
  have q := h a hm
  rw [hs] at q
  exact q
theorem mk_22 {jn : Nat} {cI cR cM : ClassId} {g : Nat → Nat} {L : List Nat} {S : Sg} {a p n : Nat} {c : Nat → Option Nat} (h0 : ∀ i : Int, 0 ≤ i → i < 6 → ∃ r p n, c i.toNat = some r ∧ isRow L S r p n) : okE jn cI cR cM g L S a (22, p, n) (.inl (cR, 6, .inr (.inr (.inr (.inr c))))) := by
  have q : ∀ e : va_E, e = .inl (cR, 6, .inr (.inr (.inr (.inr c)))) → okE jn cI cR cM g L S a (22, p, n) e := by
    intro e he
    show ∃ c : Nat → Option Nat, e = .inl (cR, 6, .inr (.inr (.inr (.inr c)))) ∧ (∀ i : Int, 0 ≤ i → i < 6 → ∃ r p n, c i.toNat = some r ∧ isRow L S r p n)
    exact ⟨c, he, h0⟩
  exact q _ rfl
theorem op_23 {jn : Nat} {cI cR cM : ClassId} {g : Nat → Nat} {L : List Nat} {S : Sg} {f : Nat → va_E} {a p n : Nat} (h : IN jn cI cR cM g L S f) (hm : a ∈ L) (hs : S a = (23, p, n)) : ∃ c : Nat → Option Nat, f a = .inl (cR, 8, .inr (.inr (.inr (.inr c)))) ∧ (∀ i : Int, 0 ≤ i → i < 8 → ∃ r p n, c i.toNat = some r ∧ isRow L S r p n) := by
  have q := h a hm
  rw [hs] at q
  exact q
theorem mk_23 {jn : Nat} {cI cR cM : ClassId} {g : Nat → Nat} {L : List Nat} {S : Sg} {a p n : Nat} {c : Nat → Option Nat} (h0 : ∀ i : Int, 0 ≤ i → i < 8 → ∃ r p n, c i.toNat = some r ∧ isRow L S r p n) : okE jn cI cR cM g L S a (23, p, n) (.inl (cR, 8, .inr (.inr (.inr (.inr c))))) := by
  have q : ∀ e : va_E, e = .inl (cR, 8, .inr (.inr (.inr (.inr c)))) → okE jn cI cR cM g L S a (23, p, n) e := by
    intro e he
    show ∃ c : Nat → Option Nat, e = .inl (cR, 8, .inr (.inr (.inr (.inr c)))) ∧ (∀ i : Int, 0 ≤ i → i < 8 → ∃ r p n, c i.toNat = some r ∧ isRow L S r p n)
    exact ⟨c, he, h0⟩
  exact q _ rfl
theorem op_27 {jn : Nat} {cI cR cM : ClassId} {g : Nat → Nat} {L : List Nat} {S : Sg} {f : Nat → va_E} {a p n : Nat} (h : IN jn cI cR cM g L S f) (hm : a ∈ L) (hs : S a = (27, p, n)) : ∃ c : Nat → Int32, f a = .inl (cI, 144, .inl c) ∧ (∀ i : Int, 0 ≤ i → i < 144 → -1 ≤ (c i.toNat).toInt ∧ (c i.toNat).toInt ≤ 143) := by
  have q := h a hm
  rw [hs] at q
  exact q
theorem mk_27 {jn : Nat} {cI cR cM : ClassId} {g : Nat → Nat} {L : List Nat} {S : Sg} {a p n : Nat} {c : Nat → Int32} (h0 : ∀ i : Int, 0 ≤ i → i < 144 → -1 ≤ (c i.toNat).toInt ∧ (c i.toNat).toInt ≤ 143) : okE jn cI cR cM g L S a (27, p, n) (.inl (cI, 144, .inl c)) := by
  have q : ∀ e : va_E, e = .inl (cI, 144, .inl c) → okE jn cI cR cM g L S a (27, p, n) e := by
    intro e he
    show ∃ c : Nat → Int32, e = .inl (cI, 144, .inl c) ∧ (∀ i : Int, 0 ≤ i → i < 144 → -1 ≤ (c i.toNat).toInt ∧ (c i.toNat).toInt ≤ 143)
    exact ⟨c, he, h0⟩
  exact q _ rfl
theorem op_30 {jn : Nat} {cI cR cM : ClassId} {g : Nat → Nat} {L : List Nat} {S : Sg} {f : Nat → va_E} {a p n : Nat} (h : IN jn cI cR cM g L S f) (hm : a ∈ L) (hs : S a = (30, p, n)) : ∃ c : Nat → Int32, f a = .inl (cI, 300, .inl c) ∧ (∀ i : Int, 0 ≤ i → i < 300 → 0 ≤ (c i.toNat).toInt ∧ (c i.toNat).toInt ≤ 255) := by
  have q := h a hm
  rw [hs] at q
  exact q
theorem mk_30 {jn : Nat} {cI cR cM : ClassId} {g : Nat → Nat} {L : List Nat} {S : Sg} {a p n : Nat} {c : Nat → Int32} (h0 : ∀ i : Int, 0 ≤ i → i < 300 → 0 ≤ (c i.toNat).toInt ∧ (c i.toNat).toInt ≤ 255) : okE jn cI cR cM g L S a (30, p, n) (.inl (cI, 300, .inl c)) := by
  have q : ∀ e : va_E, e = .inl (cI, 300, .inl c) → okE jn cI cR cM g L S a (30, p, n) e := by
    intro e he
    show ∃ c : Nat → Int32, e = .inl (cI, 300, .inl c) ∧ (∀ i : Int, 0 ≤ i → i < 300 → 0 ≤ (c i.toNat).toInt ∧ (c i.toNat).toInt ≤ 255)
    exact ⟨c, he, h0⟩
  exact q _ rfl
theorem op_31 {jn : Nat} {cI cR cM : ClassId} {g : Nat → Nat} {L : List Nat} {S : Sg} {f : Nat → va_E} {a p n : Nat} (h : IN jn cI cR cM g L S f) (hm : a ∈ L) (hs : S a = (31, p, n)) : ∃ c : Nat → Int32, f a = .inl (cI, 301, .inl c) := by
  have q := h a hm
  rw [hs] at q
  exact q
theorem mk_31 {jn : Nat} {cI cR cM : ClassId} {g : Nat → Nat} {L : List Nat} {S : Sg} {a p n : Nat} {c : Nat → Int32}  : okE jn cI cR cM g L S a (31, p, n) (.inl (cI, 301, .inl c)) := by
  have q : ∀ e : va_E, e = .inl (cI, 301, .inl c) → okE jn cI cR cM g L S a (31, p, n) e := by
    intro e he
    show ∃ c : Nat → Int32, e = .inl (cI, 301, .inl c)
    exact ⟨c, he⟩
  exact q _ rfl
theorem op_32 {jn : Nat} {cI cR cM : ClassId} {g : Nat → Nat} {L : List Nat} {S : Sg} {f : Nat → va_E} {a p n : Nat} (h : IN jn cI cR cM g L S f) (hm : a ∈ L) (hs : S a = (32, p, n)) : ∃ c : Nat → Int32, f a = .inl (cI, 301, .inl c) := by
  have q := h a hm
  rw [hs] at q
  exact q
theorem mk_32 {jn : Nat} {cI cR cM : ClassId} {g : Nat → Nat} {L : List Nat} {S : Sg} {a p n : Nat} {c : Nat → Int32}  : okE jn cI cR cM g L S a (32, p, n) (.inl (cI, 301, .inl c)) := by
  have q : ∀ e : va_E, e = .inl (cI, 301, .inl c) → okE jn cI cR cM g L S a (32, p, n) e := by
    intro e he
    show ∃ c : Nat → Int32, e = .inl (cI, 301, .inl c)
    exact ⟨c, he⟩
  exact q _ rfl
theorem op_33 {jn : Nat} {cI cR cM : ClassId} {g : Nat → Nat} {L : List Nat} {S : Sg} {f : Nat → va_E} {a p n : Nat} (h : IN jn cI cR cM g L S f) (hm : a ∈ L) (hs : S a = (33, p, n)) : ∃ c : Nat → Int32, f a = .inl (cI, 301, .inl c) := by
  have q := h a hm
  rw [hs] at q
  exact q
theorem mk_33 {jn : Nat} {cI cR cM : ClassId} {g : Nat → Nat} {L : List Nat} {S : Sg} {a p n : Nat} {c : Nat → Int32}  : okE jn cI cR cM g L S a (33, p, n) (.inl (cI, 301, .inl c)) := by
  have q : ∀ e : va_E, e = .inl (cI, 301, .inl c) → okE jn cI cR cM g L S a (33, p, n) e := by
    intro e he
    show ∃ c : Nat → Int32, e = .inl (cI, 301, .inl c)
    exact ⟨c, he⟩
  exact q _ rfl
theorem op_34 {jn : Nat} {cI cR cM : ClassId} {g : Nat → Nat} {L : List Nat} {S : Sg} {f : Nat → va_E} {a p n : Nat} (h : IN jn cI cR cM g L S f) (hm : a ∈ L) (hs : S a = (34, p, n)) : ∃ c : Nat → Int32, f a = .inl (cI, 6, .inl c) := by
  have q := h a hm
  rw [hs] at q
  exact q
theorem mk_34 {jn : Nat} {cI cR cM : ClassId} {g : Nat → Nat} {L : List Nat} {S : Sg} {a p n : Nat} {c : Nat → Int32}  : okE jn cI cR cM g L S a (34, p, n) (.inl (cI, 6, .inl c)) := by
  have q : ∀ e : va_E, e = .inl (cI, 6, .inl c) → okE jn cI cR cM g L S a (34, p, n) e := by
    intro e he
    show ∃ c : Nat → Int32, e = .inl (cI, 6, .inl c)
    exact ⟨c, he⟩
  exact q _ rfl
theorem op_35 {jn : Nat} {cI cR cM : ClassId} {g : Nat → Nat} {L : List Nat} {S : Sg} {f : Nat → va_E} {a p n : Nat} (h : IN jn cI cR cM g L S f) (hm : a ∈ L) (hs : S a = (35, p, n)) : ∃ c : Nat → Int32, f a = .inl (cI, 72, .inl c) := by
  have q := h a hm
  rw [hs] at q
  exact q
theorem mk_35 {jn : Nat} {cI cR cM : ClassId} {g : Nat → Nat} {L : List Nat} {S : Sg} {a p n : Nat} {c : Nat → Int32}  : okE jn cI cR cM g L S a (35, p, n) (.inl (cI, 72, .inl c)) := by
  have q : ∀ e : va_E, e = .inl (cI, 72, .inl c) → okE jn cI cR cM g L S a (35, p, n) e := by
    intro e he
    show ∃ c : Nat → Int32, e = .inl (cI, 72, .inl c)
    exact ⟨c, he⟩
  exact q _ rfl
theorem op_36 {jn : Nat} {cI cR cM : ClassId} {g : Nat → Nat} {L : List Nat} {S : Sg} {f : Nat → va_E} {a p n : Nat} (h : IN jn cI cR cM g L S f) (hm : a ∈ L) (hs : S a = (36, p, n)) : ∃ c : Nat → Int32, f a = .inl (cI, 144, .inl c) := by
  have q := h a hm
  rw [hs] at q
  exact q
theorem mk_36 {jn : Nat} {cI cR cM : ClassId} {g : Nat → Nat} {L : List Nat} {S : Sg} {a p n : Nat} {c : Nat → Int32}  : okE jn cI cR cM g L S a (36, p, n) (.inl (cI, 144, .inl c)) := by
  have q : ∀ e : va_E, e = .inl (cI, 144, .inl c) → okE jn cI cR cM g L S a (36, p, n) e := by
    intro e he
    show ∃ c : Nat → Int32, e = .inl (cI, 144, .inl c)
    exact ⟨c, he⟩
  exact q _ rfl
theorem op_37 {jn : Nat} {cI cR cM : ClassId} {g : Nat → Nat} {L : List Nat} {S : Sg} {f : Nat → va_E} {a p n : Nat} (h : IN jn cI cR cM g L S f) (hm : a ∈ L) (hs : S a = (37, p, n)) : ∃ c : Nat → Int32, f a = .inl (cI, 144, .inl c) := by
  have q := h a hm
  rw [hs] at q
  exact q
theorem mk_37 {jn : Nat} {cI cR cM : ClassId} {g : Nat → Nat} {L : List Nat} {S : Sg} {a p n : Nat} {c : Nat → Int32}  : okE jn cI cR cM g L S a (37, p, n) (.inl (cI, 144, .inl c)) := by
  have q : ∀ e : va_E, e = .inl (cI, 144, .inl c) → okE jn cI cR cM g L S a (37, p, n) e := by
    intro e he
    show ∃ c : Nat → Int32, e = .inl (cI, 144, .inl c)
    exact ⟨c, he⟩
  exact q _ rfl
theorem op_38 {jn : Nat} {cI cR cM : ClassId} {g : Nat → Nat} {L : List Nat} {S : Sg} {f : Nat → va_E} {a p n : Nat} (h : IN jn cI cR cM g L S f) (hm : a ∈ L) (hs : S a = (38, p, n)) : ∃ c : Nat → Int32, f a = .inl (cI, 144, .inl c) := by
  have q := h a hm
  rw [hs] at q
  exact q
theorem mk_38 {jn : Nat} {cI cR cM : ClassId} {g : Nat → Nat} {L : List Nat} {S : Sg} {a p n : Nat} {c : Nat → Int32}  : okE jn cI cR cM g L S a (38, p, n) (.inl (cI, 144, .inl c)) := by
  have q : ∀ e : va_E, e = .inl (cI, 144, .inl c) → okE jn cI cR cM g L S a (38, p, n) e := by
    intro e he
    show ∃ c : Nat → Int32, e = .inl (cI, 144, .inl c)
    exact ⟨c, he⟩
  exact q _ rfl
theorem op_39 {jn : Nat} {cI cR cM : ClassId} {g : Nat → Nat} {L : List Nat} {S : Sg} {f : Nat → va_E} {a p n : Nat} (h : IN jn cI cR cM g L S f) (hm : a ∈ L) (hs : S a = (39, p, n)) : ∃ c : Nat → Int32, f a = .inl (cI, 144, .inl c) := by
  have q := h a hm
  rw [hs] at q
  exact q
theorem mk_39 {jn : Nat} {cI cR cM : ClassId} {g : Nat → Nat} {L : List Nat} {S : Sg} {a p n : Nat} {c : Nat → Int32}  : okE jn cI cR cM g L S a (39, p, n) (.inl (cI, 144, .inl c)) := by
  have q : ∀ e : va_E, e = .inl (cI, 144, .inl c) → okE jn cI cR cM g L S a (39, p, n) e := by
    intro e he
    show ∃ c : Nat → Int32, e = .inl (cI, 144, .inl c)
    exact ⟨c, he⟩
  exact q _ rfl
theorem op_40 {jn : Nat} {cI cR cM : ClassId} {g : Nat → Nat} {L : List Nat} {S : Sg} {f : Nat → va_E} {a p n : Nat} (h : IN jn cI cR cM g L S f) (hm : a ∈ L) (hs : S a = (40, p, n)) : ∃ c : Nat → Int32, f a = .inl (cI, 512, .inl c) := by
  have q := h a hm
  rw [hs] at q
  exact q
theorem mk_40 {jn : Nat} {cI cR cM : ClassId} {g : Nat → Nat} {L : List Nat} {S : Sg} {a p n : Nat} {c : Nat → Int32}  : okE jn cI cR cM g L S a (40, p, n) (.inl (cI, 512, .inl c)) := by
  have q : ∀ e : va_E, e = .inl (cI, 512, .inl c) → okE jn cI cR cM g L S a (40, p, n) e := by
    intro e he
    show ∃ c : Nat → Int32, e = .inl (cI, 512, .inl c)
    exact ⟨c, he⟩
  exact q _ rfl
theorem op_41 {jn : Nat} {cI cR cM : ClassId} {g : Nat → Nat} {L : List Nat} {S : Sg} {f : Nat → va_E} {a p n : Nat} (h : IN jn cI cR cM g L S f) (hm : a ∈ L) (hs : S a = (41, p, n)) : ∃ c : Nat → Int32, f a = .inl (cI, 512, .inl c) := by
  have q := h a hm
  rw [hs] at q
  exact q
theorem mk_41 {jn : Nat} {cI cR cM : ClassId} {g : Nat → Nat} {L : List Nat} {S : Sg} {a p n : Nat} {c : Nat → Int32}  : okE jn cI cR cM g L S a (41, p, n) (.inl (cI, 512, .inl c)) := by
  have q : ∀ e : va_E, e = .inl (cI, 512, .inl c) → okE jn cI cR cM g L S a (41, p, n) e := by
    intro e he
    show ∃ c : Nat → Int32, e = .inl (cI, 512, .inl c)
    exact ⟨c, he⟩
  exact q _ rfl
theorem op_42 {jn : Nat} {cI cR cM : ClassId} {g : Nat → Nat} {L : List Nat} {S : Sg} {f : Nat → va_E} {a p n : Nat} (h : IN jn cI cR cM g L S f) (hm : a ∈ L) (hs : S a = (42, p, n)) : ∃ c : Nat → Int32, f a = .inl (cI, 512, .inl c) := by
  have q := h a hm
  rw [hs] at q
  exact q
theorem mk_42 {jn : Nat} {cI cR cM : ClassId} {g : Nat → Nat} {L : List Nat} {S : Sg} {a p n : Nat} {c : Nat → Int32}  : okE jn cI cR cM g L S a (42, p, n) (.inl (cI, 512, .inl c)) := by
  have q : ∀ e : va_E, e = .inl (cI, 512, .inl c) → okE jn cI cR cM g L S a (42, p, n) e := by
    intro e he
    show ∃ c : Nat → Int32, e = .inl (cI, 512, .inl c)
    exact ⟨c, he⟩
  exact q _ rfl
theorem op_43 {jn : Nat} {cI cR cM : ClassId} {g : Nat → Nat} {L : List Nat} {S : Sg} {f : Nat → va_E} {a p n : Nat} (h : IN jn cI cR cM g L S f) (hm : a ∈ L) (hs : S a = (43, p, n)) : ∃ c : Nat → Int32, f a = .inl (cI, 512, .inl c) := by
  have q := h a hm
  rw [hs] at q
  exact q
theorem mk_43 {jn : Nat} {cI cR cM : ClassId} {g : Nat → Nat} {L : List Nat} {S : Sg} {a p n : Nat} {c : Nat → Int32}  : okE jn cI cR cM g L S a (43, p, n) (.inl (cI, 512, .inl c)) := by
  have q : ∀ e : va_E, e = .inl (cI, 512, .inl c) → okE jn cI cR cM g L S a (43, p, n) e := by
    intro e he
    show ∃ c : Nat → Int32, e = .inl (cI, 512, .inl c)
    exact ⟨c, he⟩
  exact q _ rfl
theorem op_44 {jn : Nat} {cI cR cM : ClassId} {g : Nat → Nat} {L : List Nat} {S : Sg} {f : Nat → va_E} {a p n : Nat} (h : IN jn cI cR cM g L S f) (hm : a ∈ L) (hs : S a = (44, p, n)) : ∃ c : Nat → Int32, f a = .inl (cI, 300, .inl c) := by
  have q := h a hm
  rw [hs] at q
  exact q
theorem mk_44 {jn : Nat} {cI cR cM : ClassId} {g : Nat → Nat} {L : List Nat} {S : Sg} {a p n : Nat} {c : Nat → Int32}  : okE jn cI cR cM g L S a (44, p, n) (.inl (cI, 300, .inl c)) := by
  have q : ∀ e : va_E, e = .inl (cI, 300, .inl c) → okE jn cI cR cM g L S a (44, p, n) e := by
    intro e he
    show ∃ c : Nat → Int32, e = .inl (cI, 300, .inl c)
    exact ⟨c, he⟩
  exact q _ rfl
theorem op_45 {jn : Nat} {cI cR cM : ClassId} {g : Nat → Nat} {L : List Nat} {S : Sg} {f : Nat → va_E} {a p n : Nat} (h : IN jn cI cR cM g L S f) (hm : a ∈ L) (hs : S a = (45, p, n)) : ∃ c : Nat → Int32, f a = .inl (cI, 300, .inl c) := by
  have q := h a hm
  rw [hs] at q
  exact q
theorem mk_45 {jn : Nat} {cI cR cM : ClassId} {g : Nat → Nat} {L : List Nat} {S : Sg} {a p n : Nat} {c : Nat → Int32}  : okE jn cI cR cM g L S a (45, p, n) (.inl (cI, 300, .inl c)) := by
  have q : ∀ e : va_E, e = .inl (cI, 300, .inl c) → okE jn cI cR cM g L S a (45, p, n) e := by
    intro e he
    show ∃ c : Nat → Int32, e = .inl (cI, 300, .inl c)
    exact ⟨c, he⟩
  exact q _ rfl
theorem op_46 {jn : Nat} {cI cR cM : ClassId} {g : Nat → Nat} {L : List Nat} {S : Sg} {f : Nat → va_E} {a p n : Nat} (h : IN jn cI cR cM g L S f) (hm : a ∈ L) (hs : S a = (46, p, n)) : ∃ c : Nat → Int32, f a = .inl (cI, 8192, .inl c) := by
  have q := h a hm
  rw [hs] at q
  exact q
theorem mk_46 {jn : Nat} {cI cR cM : ClassId} {g : Nat → Nat} {L : List Nat} {S : Sg} {a p n : Nat} {c : Nat → Int32}  : okE jn cI cR cM g L S a (46, p, n) (.inl (cI, 8192, .inl c)) := by
  have q : ∀ e : va_E, e = .inl (cI, 8192, .inl c) → okE jn cI cR cM g L S a (46, p, n) e := by
    intro e he
    show ∃ c : Nat → Int32, e = .inl (cI, 8192, .inl c)
    exact ⟨c, he⟩
  exact q _ rfl
theorem op_47 {jn : Nat} {cI cR cM : ClassId} {g : Nat → Nat} {L : List Nat} {S : Sg} {f : Nat → va_E} {a p n : Nat} (h : IN jn cI cR cM g L S f) (hm : a ∈ L) (hs : S a = (47, p, n)) : ∃ c : Nat → Int32, f a = .inl (cI, 7, .inl c) := by
  have q := h a hm
  rw [hs] at q
  exact q
theorem mk_47 {jn : Nat} {cI cR cM : ClassId} {g : Nat → Nat} {L : List Nat} {S : Sg} {a p n : Nat} {c : Nat → Int32}  : okE jn cI cR cM g L S a (47, p, n) (.inl (cI, 7, .inl c)) := by
  have q : ∀ e : va_E, e = .inl (cI, 7, .inl c) → okE jn cI cR cM g L S a (47, p, n) e := by
    intro e he
    show ∃ c : Nat → Int32, e = .inl (cI, 7, .inl c)
    exact ⟨c, he⟩
  exact q _ rfl
theorem rf_inj {x y : Option Nat} (h : va_rf x = va_rf y) : x = y := by
  cases x with
  | none => cases y with
    | none => rfl
    | some b => cases h
  | some a => cases y with
    | none => cases h
    | some b => cases h; rfl
theorem iv_0 {jn : Nat} {cI cR cM : ClassId} {g : Nat → Nat} {L : List Nat} {S : Sg} {f : Nat → va_E} {a p n : Nat} {len : Int32} (h : IN jn cI cR cM g L S f) (hm : a ∈ L) (hs : S a = (0, p, n)) (hf : f a = .inr (5, [.int (nI jn), .int (nI (2 * jn)), .ref p, .int len])) : (0 ≤ len.toInt) ∧ (len.toInt * (2 * (jn : Int)) ≤ (n : Int)) ∧ (n ≤ 144) ∧ (p ∈ L) ∧ (S p = (1, n, a)) := by
  obtain ⟨len', e9, h0, h1, h2, h3, h4⟩ := op_0 h hm hs
  rw [hf] at e9
  cases e9
  exact ⟨h0, h1, h2, h3, h4⟩
theorem iv_2 {jn : Nat} {cI cR cM : ClassId} {g : Nat → Nat} {L : List Nat} {S : Sg} {f : Nat → va_E} {a p n : Nat} {cnt : Int32} (h : IN jn cI cR cM g L S f) (hm : a ∈ L) (hs : S a = (2, p, n)) (hf : f a = .inr (3, [.ref p, .int cnt])) : (0 ≤ cnt.toInt) ∧ (cnt.toInt ≤ 7) ∧ (p ∈ L) ∧ (S p = (3, 0, a)) := by
  obtain ⟨cnt', e9, h0, h1, h2, h3⟩ := op_2 h hm hs
  rw [hf] at e9
  cases e9
  exact ⟨h0, h1, h2, h3⟩
theorem iv_11 {jn : Nat} {cI cR cM : ClassId} {g : Nat → Nat} {L : List Nat} {S : Sg} {f : Nat → va_E} {a p n : Nat} {len : Int32} (h : IN jn cI cR cM g L S f) (hm : a ∈ L) (hs : S a = (11, p, n)) (hf : f a = .inr (7, [.ref (g 30), .int len])) : (0 ≤ len.toInt) ∧ (len.toInt ≤ 300) := by
  obtain ⟨len', e9, h0, h1⟩ := op_11 h hm hs
  rw [hf] at e9
  cases e9
  exact ⟨h0, h1⟩
theorem iv_12 {jn : Nat} {cI cR cM : ClassId} {g : Nat → Nat} {L : List Nat} {S : Sg} {f : Nat → va_E} {a p n : Nat} {tm : Int32} {lk : Int32} (h : IN jn cI cR cM g L S f) (hm : a ∈ L) (hs : S a = (12, p, n)) (hf : f a = .inr (0, [.ref (g 20), .ref (g 21), .int tm, .int lk])) : (0 ≤ lk.toInt) ∧ (lk.toInt ≤ tm.toInt) ∧ (tm.toInt ≤ 60) := by
  obtain ⟨tm', lk', e9, h0, h1, h2⟩ := op_12 h hm hs
  rw [hf] at e9
  cases e9
  exact ⟨h0, h1, h2⟩
theorem iv_14 {jn : Nat} {cI cR cM : ClassId} {g : Nat → Nat} {L : List Nat} {S : Sg} {f : Nat → va_E} {a p n : Nat} {cnt : Int32} {nx : Int32} {kd : Int32} {vl : Int32} {st : Int32} {ls : Int32} (h : IN jn cI cR cM g L S f) (hm : a ∈ L) (hs : S a = (14, p, n)) (hf : f a = .inr (8, [.ref (g 11), .ref (g 31), .ref (g 32), .ref (g 33), .int cnt, .int nx, .int kd, .int vl, .int st, .int ls])) : (0 ≤ cnt.toInt) ∧ (cnt.toInt ≤ 301) ∧ (0 ≤ nx.toInt) := by
  obtain ⟨cnt', nx', kd', vl', st', ls', e9, h0, h1, h2⟩ := op_14 h hm hs
  rw [hf] at e9
  cases e9
  exact ⟨h0, h1, h2⟩
theorem iv_15 {jn : Nat} {cI cR cM : ClassId} {g : Nat → Nat} {L : List Nat} {S : Sg} {f : Nat → va_E} {a p n : Nat} {cnt : Int32} {rw : Option Nat} (h : IN jn cI cR cM g L S f) (hm : a ∈ L) (hs : S a = (15, p, n)) (hf : f a = .inr (1, [.ref (g 35), .ref (g 27), .ref (g 36), .ref (g 37), .ref (g 38), .ref (g 39), .int cnt, va_rf rw])) : (0 ≤ cnt.toInt) ∧ (cnt.toInt ≤ 144) ∧ (∀ r, rw = some r → ∃ p n, isRow L S r p n) := by
  obtain ⟨cnt', rw', e9, h0, h1, h2⟩ := op_15 h hm hs
  rw [hf] at e9
  simp only [Sum.inr.injEq, Prod.mk.injEq, List.cons.injEq, Value.int.injEq, and_true, true_and] at e9
  obtain ⟨e1, e2⟩ := e9
  have e2 := rf_inj e2
  subst e1 e2
  exact ⟨h0, h1, h2⟩
theorem iv_17 {jn : Nat} {cI cR cM : ClassId} {g : Nat → Nat} {L : List Nat} {S : Sg} {f : Nat → va_E} {a p n : Nat} {len : Int32} {st : Int32} (h : IN jn cI cR cM g L S f) (hm : a ∈ L) (hs : S a = (17, p, n)) (hf : f a = .inr (6, [.ref (g 44), .ref (g 45), .int len, .int st])) : (0 ≤ len.toInt) ∧ (len.toInt ≤ 300) := by
  obtain ⟨len', st', e9, h0, h1⟩ := op_17 h hm hs
  rw [hf] at e9
  cases e9
  exact ⟨h0, h1⟩
theorem iv_1 {jn : Nat} {cI cR cM : ClassId} {g : Nat → Nat} {L : List Nat} {S : Sg} {f : Nat → va_E} {a p n : Nat} {c : Nat → Int32} (h : IN jn cI cR cM g L S f) (hm : a ∈ L) (hs : S a = (1, p, n)) (hf : f a = .inl (cI, p, .inl c)) : cOK jn p c := by
  obtain ⟨c1, e9, h0⟩ := op_1 h hm hs
  rw [hf] at e9
  cases e9
  exact h0
theorem iv_27 {jn : Nat} {cI cR cM : ClassId} {g : Nat → Nat} {L : List Nat} {S : Sg} {f : Nat → va_E} {a p n : Nat} {c : Nat → Int32} (h : IN jn cI cR cM g L S f) (hm : a ∈ L) (hs : S a = (27, p, n)) (hf : f a = .inl (cI, 144, .inl c)) : ∀ i : Int, 0 ≤ i → i < 144 → -1 ≤ (c i.toNat).toInt ∧ (c i.toNat).toInt ≤ 143 := by
  obtain ⟨c1, e9, h0⟩ := op_27 h hm hs
  rw [hf] at e9
  cases e9
  exact h0
theorem iv_30 {jn : Nat} {cI cR cM : ClassId} {g : Nat → Nat} {L : List Nat} {S : Sg} {f : Nat → va_E} {a p n : Nat} {c : Nat → Int32} (h : IN jn cI cR cM g L S f) (hm : a ∈ L) (hs : S a = (30, p, n)) (hf : f a = .inl (cI, 300, .inl c)) : ∀ i : Int, 0 ≤ i → i < 300 → 0 ≤ (c i.toNat).toInt ∧ (c i.toNat).toInt ≤ 255 := by
  obtain ⟨c1, e9, h0⟩ := op_30 h hm hs
  rw [hf] at e9
  cases e9
  exact h0
theorem iv_20 {jn : Nat} {cI cR cM : ClassId} {g : Nat → Nat} {L : List Nat} {S : Sg} {f : Nat → va_E} {a p n : Nat} {c : Nat → Option Nat} (h : IN jn cI cR cM g L S f) (hm : a ∈ L) (hs : S a = (20, p, n)) (hf : f a = .inl (cR, 488, .inr (.inr (.inr (.inr c))))) : ∀ i : Int, 0 ≤ i → i < 488 → ∀ r, c i.toNat = some r → ∃ p n, isRow L S r p n := by
  obtain ⟨c1, e9, h0⟩ := op_20 h hm hs
  rw [hf] at e9
  cases e9
  exact h0
theorem iv_21 {jn : Nat} {cI cR cM : ClassId} {g : Nat → Nat} {L : List Nat} {S : Sg} {f : Nat → va_E} {a p n : Nat} {c : Nat → Option Nat} (h : IN jn cI cR cM g L S f) (hm : a ∈ L) (hs : S a = (21, p, n)) (hf : f a = .inl (cM, 61, .inr (.inr (.inr (.inr c))))) : ∀ i : Int, 0 ≤ i → i < 61 → ∀ r, c i.toNat = some r → ∃ p, isMk L S r p := by
  obtain ⟨c1, e9, h0⟩ := op_21 h hm hs
  rw [hf] at e9
  cases e9
  exact h0
theorem iv_22 {jn : Nat} {cI cR cM : ClassId} {g : Nat → Nat} {L : List Nat} {S : Sg} {f : Nat → va_E} {a p n : Nat} {c : Nat → Option Nat} (h : IN jn cI cR cM g L S f) (hm : a ∈ L) (hs : S a = (22, p, n)) (hf : f a = .inl (cR, 6, .inr (.inr (.inr (.inr c))))) : ∀ i : Int, 0 ≤ i → i < 6 → ∃ r p n, c i.toNat = some r ∧ isRow L S r p n := by
  obtain ⟨c1, e9, h0⟩ := op_22 h hm hs
  rw [hf] at e9
  cases e9
  exact h0
theorem iv_23 {jn : Nat} {cI cR cM : ClassId} {g : Nat → Nat} {L : List Nat} {S : Sg} {f : Nat → va_E} {a p n : Nat} {c : Nat → Option Nat} (h : IN jn cI cR cM g L S f) (hm : a ∈ L) (hs : S a = (23, p, n)) (hf : f a = .inl (cR, 8, .inr (.inr (.inr (.inr c))))) : ∀ i : Int, 0 ≤ i → i < 8 → ∃ r p n, c i.toNat = some r ∧ isRow L S r p n := by
  obtain ⟨c1, e9, h0⟩ := op_23 h hm hs
  rw [hf] at e9
  cases e9
  exact h0
theorem w2 {jn : Nat} (h : 1 ≤ jn ∧ jn ≤ 3) : (nI (2 * jn)).toInt = 2 * (jn : Int) := by
  rw [nI_toInt (by omega)]
  omega
theorem j3 {jn : Nat} (h : 1 ≤ jn ∧ jn ≤ 3) : jn = 1 ∨ jn = 2 ∨ jn = 3 := by omega
theorem and3 {x : Int32} (h : 0 ≤ x.toInt ∧ x.toInt < 40) : (x &&& 3).toInt = x.toInt % 4 := by
  have H : ∀ k, k < 40 → (nI k &&& 3).toInt = (nI k).toInt % 4 := by decide +kernel
  obtain ⟨k, hk, e⟩ : ∃ k, k < 40 ∧ x = nI k := ⟨x.toInt.toNat, by omega, Int32.toInt_inj.mp (by rw [nI_toInt (by omega)]; omega)⟩
  rw [e]; exact H k hk
theorem shr2 {x : Int32} (h : 0 ≤ x.toInt ∧ x.toInt < 40) : (x >>> ((2 : Int32) &&& 31)).toInt = x.toInt / 4 := by
  have H : ∀ k, k < 40 → (nI k >>> ((2 : Int32) &&& 31)).toInt = (nI k).toInt / 4 := by decide +kernel
  obtain ⟨k, hk, e⟩ : ∃ k, k < 40 ∧ x = nI k := ⟨x.toInt.toNat, by omega, Int32.toInt_inj.mp (by rw [nI_toInt (by omega)]; omega)⟩
  rw [e]; exact H k hk
theorem lenw {jn n : Nat} {len : Int32} (hj : 1 ≤ jn ∧ jn ≤ 3) (h0 : 0 ≤ len.toInt) (h1 : len.toInt * (2 * (jn : Int)) ≤ n) (h2 : n ≤ 144) : 0 ≤ len.toInt * (2 * (jn : Int)) ∧ len.toInt ≤ 72 ∧ len.toInt * (jn : Int) ≤ 72 ∧ 0 ≤ len.toInt * (jn : Int) ∧ (jn : Int) * (2 * len.toInt) ≤ n := by
  rcases j3 hj with h | h | h <;> subst h <;> omega
theorem at_c {jn n : Nat} {c : Nat → Int32} {x : Int32} (h : cOK jn n c) {i : Int} (h0 : 0 ≤ i ∧ i < n) (hx : x = c i.toNat) : 0 ≤ x.toInt ∧ x.toInt < 40 ∧ (x.toInt = 0 ∨ 3 - x.toInt % 4 < jn) := by
  rw [hx]; exact h i h0.1 h0.2
theorem cOK_set {jn n : Nat} {c : Nat → Int32} {x : Int32} {k : Int} (h : cOK jn n c) (h0 : 0 ≤ k) (hx : 0 ≤ x.toInt ∧ x.toInt < 40 ∧ (x.toInt = 0 ∨ 3 - x.toInt % 4 < jn)) : cOK jn n (upd c k.toNat x) := by
  intro i i0 i1
  by_cases e : i = k
  · rw [e, pk_us]; exact hx
  · rw [un_i i0 h0 e]; exact h i i0 i1
theorem cOK_0 {jn n : Nat} {c : Nat → Int32} (h : ∀ i, i < n → c i = 0) : cOK jn n c := by
  intro i i0 i1
  rw [h i.toNat (by omega)]
  exact ⟨by decide, by decide, Or.inl rfl⟩
theorem cOK_cpy {jn n n1 : Nat} {c c1 : Nat → Int32} {sp dp k : Nat} (h : cOK jn n c) (h1 : cOK jn n1 c1) (h2 : sp + k ≤ n) : cOK jn n1 (va_cpy c c1 sp dp k) := by
  intro i i0 i1
  show 0 ≤ (va_cpy c c1 sp dp k i.toNat).toInt ∧ _
  unfold va_cpy
  by_cases e : dp ≤ i.toNat ∧ i.toNat < dp + k
  · rw [if_pos e]
    have := h ((sp + (i.toNat - dp) : Nat) : Int) (by omega) (by omega)
    rw [Int.toNat_natCast] at this
    exact this
  · rw [if_neg e]; exact h1 i i0 i1
/-- the end of a method that changes nothing and answers a reference -/
def QR (φ : Option Nat → Prop) (sz : Nat) : Array Value → State → Outcome → State → Prop := fun _ st oc t => (∃ r : Option Nat, oc = .returned (some (va_rf r)) ∧ φ r) ∧ va_F (va_A [] sz) st t
section HLPT
variable {p : Program} {l : Launch} {e : Env} {R : Room} {s : State} {m : MethodId} {args : Array Value} {below : List Frame} {meth : Method} {c : Code} {H : Heap} {locs : List Loc} {cells slots : Nat} {Q : State → Prop}
variable {cc : ByteArray} {pc : Nat} {ls : Array Slot} {rest st0 : List Value} {D : va_G} {cl : List vw_C} {A : Nat → Prop} {a : Nat} {tys : List (ClassId × FieldType)} {ws wc wr : va_W} {H0 : Heap} {av : Array Value} {mc ms : Nat}
variable {L : List Nat} {f : Nat → va_E}

theorem pl_at (hm : a ∈ L) : ∃ k : Nat, (va_pl L f)[k]? = some (a, f a) := va_pl_get (X := []) hm
theorem pl_set {k : Nat} {x : va_E} (hD : va_D A (va_pl L f)) (hm : a ∈ L) (hk : (va_pl L f)[k]? = some (a, f a)) : (va_pl L f).set k (a, x) = va_pl L (va_up f a x) := va_pl_set (X := []) hD hm hk
theorem t_get {own ref C : String} {T : u_T} {N ci index : Nat} {Ts : List Cond} {fs : List Value} (hx : p.tables.exec = Jvm.exec) (hb : c.code = cc) (hts : ∀ w ∈ Ts, w.before args s = true) (hin : ∀ w ∈ u_ws C T N, w ∈ Ts) (hown : s.vm.findClass own = some m.cls) (hK : va_K D cl tys s) (hP : va_P D cl (va_pl L f) H) (hm : a ∈ L) (hf : f a = .inr (ci, fs)) (hc : cl[ci]? = some (C, T, N)) (k : Nat) (hk : k < N) (hlink : (Cond.fieldLink own index ref (T k).2.1 (T k).2.2.1).before args s = true) (hsame : ∀ x, s.fieldFound? (T k).1 (T k).2.1 (T k).2.2.1 = some x → s.fieldFound? ref (T k).2.1 (T k).2.2.1 = some x) {v : Value} (hv : fs[k]? = some v) (hdg : decode cc pc = .ok (.getfield index, 3))
    (kk : W p l e R s m args below meth c H locs cells slots Q (F0 m (pc + 3) ls (v :: rest))) : W p l e R s m args below meth c H locs cells slots Q (F0 m pc ls (.ref a :: rest)) := by
  obtain ⟨q0, he⟩ := pl_at (f := f) hm
  rw [hf] at he
  exact va_get hx hb hts hin hown hK hP q0 he hc k hk hlink hsame hv hdg kk
theorem t_put {own ref C : String} {T : u_T} {N ci index : Nat} {Ts : List Cond} {fs : List Value} (hx : p.tables.exec = Jvm.exec) (hb : c.code = cc) (hts : ∀ w ∈ Ts, w.before args s = true) (hin : ∀ w ∈ u_ws C T N, w ∈ Ts) (ty0 : Nat → FieldType) (hty : ∀ k, k < N → parseFieldDescriptor (T k).2.2.1 = some (ty0 k)) (hnm : ∀ a, a < N → ∀ b, b < N → a ≠ b → (T a).2.1 ≠ (T b).2.1) (hown : s.vm.findClass own = some m.cls) (hK : va_K D cl tys s) (hP : va_P D cl (va_pl L f) H) (hD : va_D A (va_pl L f)) (hS : va_S A H0 H locs) (hm : a ∈ L) (hf : f a = .inr (ci, fs)) (hc : cl[ci]? = some (C, T, N)) (k : Nat) (hk : k < N) (hlink : (Cond.fieldLink own index ref (T k).2.1 (T k).2.2.1).before args s = true) (hsame : ∀ x, s.fieldFound? (T k).1 (T k).2.1 (T k).2.2.1 = some x → s.fieldFound? ref (T k).2.1 (T k).2.2.1 = some x) (hfin : (T k).2.2.2 = false) {ty : FieldType} {v : Value} (hd : parseFieldDescriptor (T k).2.2.1 = some ty) (hn : narrow ty v = v) (hfit : fits ty v = true) (hl : k < fs.length) (hdg : decode cc pc = .ok (.putfield index, 3))
    (kk : ∀ (f1 : Nat → va_E) (H1 : Heap) (locs1 : List Loc), f1 a = .inr (ci, fs.set k v) → (∀ b, b ≠ a → f1 b = f b) → va_P D cl (va_pl L f1) H1 → va_D A (va_pl L f1) → va_S A H0 H1 locs1 → W p l e R s m args below meth c H1 locs1 cells slots Q (F0 m (pc + 3) ls rest)) : W p l e R s m args below meth c H locs cells slots Q (F0 m pc ls (v :: .ref a :: rest)) := by
  obtain ⟨q0, he0⟩ := pl_at (f := f) hm
  have he := he0
  rw [hf] at he
  refine va_put hx hb hts hin ty0 hty hnm hown hK hP hD hS q0 he hc k hk hlink hsame hfin hd hn hfit hl hdg (fun H1 L1 hP1 hD1 hS1 => ?_)
  rw [pl_set hD hm he0] at hP1 hD1
  exact kk _ H1 L1 (va_up_self _ _ _) (fun b h => va_up_ne _ _ h) hP1 hD1 hS1
theorem t_putF {own ref C : String} {T : u_T} {N ci index : Nat} {Ts : List Cond} {fs : List Value} (hx : p.tables.exec = Jvm.exec) (hb : c.code = cc) (hts : ∀ w ∈ Ts, w.before args s = true) (hin : ∀ w ∈ u_ws C T N, w ∈ Ts) (ty0 : Nat → FieldType) (hty : ∀ k, k < N → parseFieldDescriptor (T k).2.2.1 = some (ty0 k)) (hnm : ∀ a, a < N → ∀ b, b < N → a ≠ b → (T a).2.1 ≠ (T b).2.1) (hown : s.vm.findClass own = some m.cls) (hK : va_K D cl tys s) (hP : va_P D cl (va_pl L f) H) (hD : va_D A (va_pl L f)) (hS : va_S A H0 H locs) (hm : a ∈ L) (hf : f a = .inr (ci, fs)) (hc : cl[ci]? = some (C, T, N)) (k : Nat) (hk : k < N) (hlink : (Cond.fieldLink own index ref (T k).2.1 (T k).2.2.1).before args s = true) (hsame : ∀ x, s.fieldFound? (T k).1 (T k).2.1 (T k).2.2.1 = some x → s.fieldFound? ref (T k).2.1 (T k).2.2.1 = some x) (hfin : (T k).2.2.2 = true) (hin2 : meth.name = "<init>") (hdecl : (T k).1 = own) {ty : FieldType} {v : Value} (hd : parseFieldDescriptor (T k).2.2.1 = some ty) (hn : narrow ty v = v) (hfit : fits ty v = true) (hl : k < fs.length) (hdg : decode cc pc = .ok (.putfield index, 3))
    (kk : ∀ (f1 : Nat → va_E) (H1 : Heap) (locs1 : List Loc), f1 a = .inr (ci, fs.set k v) → (∀ b, b ≠ a → f1 b = f b) → va_P D cl (va_pl L f1) H1 → va_D A (va_pl L f1) → va_S A H0 H1 locs1 → W p l e R s m args below meth c H1 locs1 cells slots Q (F0 m (pc + 3) ls rest)) : W p l e R s m args below meth c H locs cells slots Q (F0 m pc ls (v :: .ref a :: rest)) := by
  obtain ⟨q0, he0⟩ := pl_at (f := f) hm
  have he := he0
  rw [hf] at he
  refine va_putF hx hb hts hin ty0 hty hnm hown hK hP hD hS q0 he hc k hk hlink hsame hfin hin2 hdecl hd hn hfit hl hdg (fun H1 L1 hP1 hD1 hS1 => ?_)
  rw [pl_set hD hm he0] at hP1 hD1
  exact kk _ H1 L1 (va_up_self _ _ _) (fun b h => va_up_ne _ _ h) hP1 hD1 hS1
theorem t_getN {host : String} {own ref C : String} {T : u_T} {N ci index : Nat} {Ts : List Cond} {fs : List Value} (hx : p.tables.exec = Jvm.exec) (hb : c.code = cc) (hts : ∀ w ∈ Ts, w.before args s = true) (hin : ∀ w ∈ u_ws C T N, w ∈ Ts) (hown : s.vm.findClass own = some m.cls) (hK : va_K D cl tys s) (hP : va_P D cl (va_pl L f) H) (hm : a ∈ L) (hf : f a = .inr (ci, fs)) (hc : cl[ci]? = some (C, T, N)) (k : Nat) (hk : k < N) (hlink : (Cond.fieldLinkNest own index ref (T k).2.1 (T k).2.2.1 host).before args s = true) (hsame : ∀ x, s.fieldFound? (T k).1 (T k).2.1 (T k).2.2.1 = some x → s.fieldFound? ref (T k).2.1 (T k).2.2.1 = some x) {v : Value} (hv : fs[k]? = some v) (hdg : decode cc pc = .ok (.getfield index, 3))
    (kk : W p l e R s m args below meth c H locs cells slots Q (F0 m (pc + 3) ls (v :: rest))) : W p l e R s m args below meth c H locs cells slots Q (F0 m pc ls (.ref a :: rest)) := by
  obtain ⟨q0, he⟩ := pl_at (f := f) hm
  rw [hf] at he
  exact va_getN hx hb hts hin hown hK hP q0 he hc k hk hlink hsame hv hdg kk
theorem t_putN {host : String} {own ref C : String} {T : u_T} {N ci index : Nat} {Ts : List Cond} {fs : List Value} (hx : p.tables.exec = Jvm.exec) (hb : c.code = cc) (hts : ∀ w ∈ Ts, w.before args s = true) (hin : ∀ w ∈ u_ws C T N, w ∈ Ts) (ty0 : Nat → FieldType) (hty : ∀ k, k < N → parseFieldDescriptor (T k).2.2.1 = some (ty0 k)) (hnm : ∀ a, a < N → ∀ b, b < N → a ≠ b → (T a).2.1 ≠ (T b).2.1) (hown : s.vm.findClass own = some m.cls) (hK : va_K D cl tys s) (hP : va_P D cl (va_pl L f) H) (hD : va_D A (va_pl L f)) (hS : va_S A H0 H locs) (hm : a ∈ L) (hf : f a = .inr (ci, fs)) (hc : cl[ci]? = some (C, T, N)) (k : Nat) (hk : k < N) (hlink : (Cond.fieldLinkNest own index ref (T k).2.1 (T k).2.2.1 host).before args s = true) (hsame : ∀ x, s.fieldFound? (T k).1 (T k).2.1 (T k).2.2.1 = some x → s.fieldFound? ref (T k).2.1 (T k).2.2.1 = some x) (hfin : (T k).2.2.2 = false) {ty : FieldType} {v : Value} (hd : parseFieldDescriptor (T k).2.2.1 = some ty) (hn : narrow ty v = v) (hfit : fits ty v = true) (hl : k < fs.length) (hdg : decode cc pc = .ok (.putfield index, 3))
    (kk : ∀ (f1 : Nat → va_E) (H1 : Heap) (locs1 : List Loc), f1 a = .inr (ci, fs.set k v) → (∀ b, b ≠ a → f1 b = f b) → va_P D cl (va_pl L f1) H1 → va_D A (va_pl L f1) → va_S A H0 H1 locs1 → W p l e R s m args below meth c H1 locs1 cells slots Q (F0 m (pc + 3) ls rest)) : W p l e R s m args below meth c H locs cells slots Q (F0 m pc ls (v :: .ref a :: rest)) := by
  obtain ⟨q0, he0⟩ := pl_at (f := f) hm
  have he := he0
  rw [hf] at he
  refine va_putN hx hb hts hin ty0 hty hnm hown hK hP hD hS q0 he hc k hk hlink hsame hfin hd hn hfit hl hdg (fun H1 L1 hP1 hD1 hS1 => ?_)
  rw [pl_set hD hm he0] at hP1 hD1
  exact kk _ H1 L1 (va_up_self _ _ _) (fun b h => va_up_ne _ _ h) hP1 hD1 hS1
theorem t_iald {x : Int32} {u : Int} (hx : p.tables.exec = Jvm.exec) (hb : c.code = cc) (hK : va_K D cl tys s) (hP : va_P D cl (va_pl L f) H) (hm : a ∈ L) (t0 : Nat) {cA : ClassId} {n : Nat} {y : Nat → Int32} (hf : f a = .inl (cA, n, .inl y)) (ht : tys[t0]? = some (cA, .int)) (hdg : decode cc pc = .ok (.iaload, 1)) (hu : x.toInt = u) (h1 : 0 ≤ u ∧ u < n)
    (kk : ∀ z : Int32, z = y u.toNat → z.toInt = (y u.toNat).toInt → W p l e R s m args below meth c H locs cells slots Q (F0 m (pc + 1) ls (.int z :: rest))) : W p l e R s m args below meth c H locs cells slots Q (F0 m pc ls (.int x :: .ref a :: rest)) := by
  obtain ⟨q0, he⟩ := pl_at (f := f) hm
  rw [hf] at he
  exact a_iald hx hb hK hP q0 t0 he ht hdg hu h1 kk
theorem t_iast {x y : Int32} {u : Int} (hx : p.tables.exec = Jvm.exec) (hb : c.code = cc) (hK : va_K D cl tys s) (hP : va_P D cl (va_pl L f) H) (hD : va_D A (va_pl L f)) (hS : va_S A H0 H locs) (hm : a ∈ L) (t0 : Nat) {cA : ClassId} {n : Nat} {h : Nat → Int32} (hf : f a = .inl (cA, n, .inl h)) (ht : tys[t0]? = some (cA, .int)) (hdg : decode cc pc = .ok (.iastore, 1)) (hu : x.toInt = u) (h1 : 0 ≤ u ∧ u < n)
    (kk : ∀ (k : Nat → Int32) (f1 : Nat → va_E) (H1 : Heap) (locs1 : List Loc), k = upd h u.toNat y → f1 a = .inl (cA, n, .inl k) → (∀ b, b ≠ a → f1 b = f b) → va_P D cl (va_pl L f1) H1 → va_D A (va_pl L f1) → va_S A H0 H1 locs1 → W p l e R s m args below meth c H1 locs1 cells slots Q (F0 m (pc + 1) ls rest)) : W p l e R s m args below meth c H locs cells slots Q (F0 m pc ls (.int y :: .int x :: .ref a :: rest)) := by
  obtain ⟨q0, he0⟩ := pl_at (f := f) hm
  have he := he0
  rw [hf] at he
  refine a_iast hx hb hK hP hD hS q0 t0 he ht hdg hu h1 (fun k H1 L1 ek hP1 hD1 hS1 => ?_)
  rw [pl_set hD hm he0] at hP1 hD1
  exact kk k _ H1 L1 ek (va_up_self _ _ _) (fun b h => va_up_ne _ _ h) hP1 hD1 hS1
theorem t_aald {x : Int32} {u : Int} (hx : p.tables.exec = Jvm.exec) (hb : c.code = cc) (hK : va_K D cl tys s) (hP : va_P D cl (va_pl L f) H) (hm : a ∈ L) (t0 : Nat) {cA : ClassId} {C : String} {n : Nat} {y : Nat → Option Nat} (hf : f a = .inl (cA, n, .inr (.inr (.inr (.inr y))))) (ht : tys[t0]? = some (cA, .object C)) (hdg : decode cc pc = .ok (.aaload, 1)) (hu : x.toInt = u) (h1 : 0 ≤ u ∧ u < n)
    (kk : ∀ o : Option Nat, o = y u.toNat → W p l e R s m args below meth c H locs cells slots Q (F0 m (pc + 1) ls (va_rf o :: rest))) : W p l e R s m args below meth c H locs cells slots Q (F0 m pc ls (.int x :: .ref a :: rest)) := by
  obtain ⟨q0, he⟩ := pl_at (f := f) hm
  rw [hf] at he
  refine va_aldq hx hb hK hP q0 t0 he ht (i_in hu h1.1 h1.2) hdg ?_
  have e : x.toNatClampNeg = u.toNat := by rw [← hu]; rfl
  rw [e]
  exact kk _ rfl
theorem t_aast {x : Int32} {u : Int} (hx : p.tables.exec = Jvm.exec) (hb : c.code = cc) (hK : va_K D cl tys s) (hP : va_P D cl (va_pl L f) H) (hD : va_D A (va_pl L f)) (hS : va_S A H0 H locs) (hm : a ∈ L) (t0 ci : Nat) {cA : ClassId} {r : vw_C} {n v : Nat} {vs : List Value} {y : Nat → Option Nat} (hf : f a = .inl (cA, n, .inr (.inr (.inr (.inr y))))) (ht : tys[t0]? = some (cA, .object r.1)) (hmv : v ∈ L) (hv : f v = .inr (ci, vs)) (hc : cl[ci]? = some r) (hdg : decode cc pc = .ok (.aastore, 1)) (hu : x.toInt = u) (h1 : 0 ≤ u ∧ u < n)
    (kk : ∀ (f1 : Nat → va_E) (H1 : Heap) (locs1 : List Loc), f1 a = .inl (cA, n, .inr (.inr (.inr (.inr (va_up y u.toNat (some v)))))) → (∀ b, b ≠ a → f1 b = f b) → va_P D cl (va_pl L f1) H1 → va_D A (va_pl L f1) → va_S A H0 H1 locs1 → W p l e R s m args below meth c H1 locs1 cells slots Q (F0 m (pc + 1) ls rest)) : W p l e R s m args below meth c H locs cells slots Q (F0 m pc ls (.ref v :: .int x :: .ref a :: rest)) := by
  obtain ⟨q0, he0⟩ := pl_at (f := f) hm
  have he := he0
  rw [hf] at he
  obtain ⟨qk, hk⟩ := pl_at (f := f) hmv
  rw [hv] at hk
  refine va_astq hx hb hK hP hD hS q0 t0 qk ci he ht hk hc (i_in hu h1.1 h1.2) hdg (fun H1 L1 hP1 hD1 hS1 => ?_)
  have e : x.toNatClampNeg = u.toNat := by rw [← hu]; rfl
  rw [e, pl_set hD hm he0] at hP1 hD1
  exact kk _ H1 L1 (va_up_self _ _ _) (fun b h => va_up_ne _ _ h) hP1 hD1 hS1
theorem t_aastN {x : Int32} {u : Int} (hx : p.tables.exec = Jvm.exec) (hb : c.code = cc) (hK : va_K D cl tys s) (hP : va_P D cl (va_pl L f) H) (hD : va_D A (va_pl L f)) (hS : va_S A H0 H locs) (hm : a ∈ L) (t0 : Nat) {cA : ClassId} {C : String} {n : Nat} {y : Nat → Option Nat} (hf : f a = .inl (cA, n, .inr (.inr (.inr (.inr y))))) (ht : tys[t0]? = some (cA, .object C)) (hdg : decode cc pc = .ok (.aastore, 1)) (hu : x.toInt = u) (h1 : 0 ≤ u ∧ u < n)
    (kk : ∀ (f1 : Nat → va_E) (H1 : Heap) (locs1 : List Loc), f1 a = .inl (cA, n, .inr (.inr (.inr (.inr (va_up y u.toNat none))))) → (∀ b, b ≠ a → f1 b = f b) → va_P D cl (va_pl L f1) H1 → va_D A (va_pl L f1) → va_S A H0 H1 locs1 → W p l e R s m args below meth c H1 locs1 cells slots Q (F0 m (pc + 1) ls rest)) : W p l e R s m args below meth c H locs cells slots Q (F0 m pc ls (.null :: .int x :: .ref a :: rest)) := by
  obtain ⟨q0, he0⟩ := pl_at (f := f) hm
  have he := he0
  rw [hf] at he
  refine va_astqN hx hb hK hP hD hS q0 t0 he ht (i_in hu h1.1 h1.2) hdg (fun H1 L1 hP1 hD1 hS1 => ?_)
  have e : x.toNatClampNeg = u.toNat := by rw [← hu]; rfl
  rw [e, pl_set hD hm he0] at hP1 hD1
  exact kk _ H1 L1 (va_up_self _ _ _) (fun b h => va_up_ne _ _ h) hP1 hD1 hS1
theorem t_alen {v : Int32} (hx : p.tables.exec = Jvm.exec) (hb : c.code = cc) (hK : va_K D cl tys s) (hP : va_P D cl (va_pl L f) H) (hm : a ∈ L) (t0 : Nat) {cA : ClassId} {x : vp_A} (hf : f a = .inl (cA, x)) {ty : FieldType} (ht : tys[t0]? = some (cA, ty)) (hv : Int32.ofNat x.1 = v) (hdg : decode cc pc = .ok (.arraylength, 1))
    (kk : W p l e R s m args below meth c H locs cells slots Q (F0 m (pc + 1) ls (.int v :: rest))) : W p l e R s m args below meth c H locs cells slots Q (F0 m pc ls (.ref a :: rest)) := by
  obtain ⟨q0, he⟩ := pl_at (f := f) hm
  rw [hf] at he
  exact va_alen hx hb hK hP q0 t0 he ht hv hdg kk
theorem pre_T {cI cR cM : ClassId} {As : List Value} {fs : List Value} {ci : Nat} {q : vw_C} (hK : KK D cI cR cM s) (hP : va_P D vwCl (va_pl L f) H) (hD : va_D A (va_pl L f)) (hm : a ∈ L) (hf : f a = .inr (ci, fs)) (hc : vwCl[ci]? = some q) : PreV s H q.1 a (P0 D cI cR cM (.ref a :: As) H.size (va_pl L f)) As := by
  obtain ⟨q0, he⟩ := pl_at (f := f) hm
  rw [hf] at he
  exact pre_V hK hP hD q0 ci hc he
/-- a call of a method over the whole class -/
theorem call_p {S : Type} {ans : S → Option Value} {w1 : S → va_W} {post : S → Prop} (hr : va_Run p l e R s m args below meth c H locs cells slots mc ms (F0 m pc ls st0) rest (QG ans w1 post D (va_A ws H.size) av) (va_A ws H.size)) (hD : va_D A ws) (hS : va_S A H0 H locs) (hA : ∀ q, H0.size ≤ q → A q)
    (kk : ∀ (u : S) (H1 : Heap) (locs1 : List Loc), post u → va_P D vwCl (w1 u) H1 → va_D A (w1 u) → va_S A H0 H1 locs1 → W p l e R s m args below meth c H1 locs1 (cells + mc) (slots + ms) Q (F0 m (pc + 3) ls ((ans u).toList ++ rest))) : W p l e R s m args below meth c H locs cells slots Q (F0 m pc ls st0) := by
  have hF : ∀ q, va_A ws H.size q → A q := fun q h => by
    rcases h with ⟨k, e, h⟩ | h
    · exact hD.2 k (q, e) h
    · exact hA q (Nat.le_trans hS.1 h)
  intro T hT X
  obtain ⟨v', st₀, t, T', L, h0, X', hL, e1, e2, ⟨⟨u, hv, hp, hP1, hD1⟩, hz, hk⟩, st⟩ := hr T hT X
  cases hv
  rw [h0] at hz hk
  rw [← e1] at hP1
  have hk2 : ∀ q : Nat, q < H.size → ¬ va_A ws H.size q → T'.heap[q]? = H[q]? := fun q h h2 => by rw [e1]; exact hk q h h2
  have hz2 : H.size ≤ T'.heap.size := by rw [e1]; exact hz
  obtain ⟨t2, a1, b1⟩ := kk u T'.heap (locs ++ L) hp hP1 (hD1.weaken (fun k q _ h => hF q.1 h))
    ⟨Nat.le_trans hS.1 hz2, fun q h1 h2 => by rw [hk2 q (Nat.lt_of_lt_of_le h1 hS.1) (fun z => h2 (hF q z))]; exact hS.2.1 q h1 h2, fun q hq => by
      rcases List.mem_append.mp hq with h | h
      · exact hS.2.2 q h
      · exact hF _ (hL q h)⟩ T' rfl X'
  exact ⟨t2, st t2 a1, b1⟩
/-- a call of a method that changes nothing and answers a reference -/
theorem roR {φ : Option Nat → Prop} (hr : va_Run p l e R s m args below meth c H locs cells slots 0 0 (F0 m pc ls st0) rest (QR φ H.size av) (va_A [] H.size)) (hS : va_S A H0 H locs) (hA : ∀ q, H0.size ≤ q → A q) (hP : va_P D cl ws H)
    (kk : ∀ (r : Option Nat) (H1 : Heap) (locs1 : List Loc), φ r → va_P D cl ws H1 → va_S A H0 H1 locs1 → W p l e R s m args below meth c H1 locs1 cells slots Q (F0 m (pc + 3) ls (va_rf r :: rest))) : W p l e R s m args below meth c H locs cells slots Q (F0 m pc ls st0) := by
  intro T hT X
  obtain ⟨v', st₀, t, T', L, h0, X', hL, e1, e2, ⟨⟨r, hv, hφ⟩, hz, hk⟩, st⟩ := hr T hT X
  cases hv
  rw [h0] at hz hk
  have hk2 : ∀ q : Nat, q < H.size → T'.heap[q]? = H[q]? := fun q h => by
    rw [e1]
    refine hk q h (fun z => ?_)
    rcases z with ⟨k, e, z⟩ | z
    · simp at z
    · omega
  have hz2 : H.size ≤ T'.heap.size := by rw [e1]; exact hz
  obtain ⟨t2, a1, b1⟩ := kk r T'.heap (locs ++ L) hφ (hP.kept (fun k q h => hk2 q.1 (hP k q h).lt))
    ⟨Nat.le_trans hS.1 hz2, fun q h1 h2 => by rw [hk2 q (Nat.lt_of_lt_of_le h1 hS.1)]; exact hS.2.1 q h1 h2, fun q hq => by
      rcases List.mem_append.mp hq with h | h
      · exact hS.2.2 q h
      · rcases hL q h with ⟨k, e, z⟩ | z
        · simp at z
        · exact hA _ (Nat.le_trans hS.1 z)⟩ T' rfl X'
  exact ⟨t2, st t2 a1, b1⟩
theorem rr_aret {o : Option Nat} {C : String} {φ : Option Nat → Prop} (hx : p.tables.exec = Jvm.exec) (hb : c.code = cc) (hr : meth.sig.returnType = some (.object C)) (hlocks : meth.locks = false) (hS : va_S (va_A [] s.heap.size) s.heap H locs) (hφ : φ o) (hQ : Q = MQ below (QR φ s.heap.size) args s 0 0 (va_A [] s.heap.size)) (hdg : decode cc pc = .ok (.areturn, 1)) : W p l e R s m args below meth c H locs 0 0 Q (F0 m pc ls [va_rf o]) := by
  rw [hQ]
  refine W.aret hx hb hr (Or.inl ⟨_, rfl⟩) ?_ (fun t ht hW => ⟨⟨o, rfl, hφ⟩, hS.F ht⟩) hS.2.2 hdg hlocks
  cases o with
  | none => exact Or.inl rfl
  | some a => exact Or.inr ⟨a, rfl⟩
end HLPT
