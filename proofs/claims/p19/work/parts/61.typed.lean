theorem x_opt (x : Option Nat) : x = none ∨ ∃ r, x = some r := by
  cases x with
  | none => exact Or.inl rfl
  | some r => exact Or.inr ⟨r, rfl⟩
theorem opt_set {P : Nat → Prop} {c : Nat → Option Nat} {N k : Int} {x : Option Nat} (h : ∀ i : Int, 0 ≤ i → i < N → ∀ r, c i.toNat = some r → P r) (hk : 0 ≤ k) (hx : ∀ r, x = some r → P r) : ∀ i : Int, 0 ≤ i → i < N → ∀ r, va_up c k.toNat x i.toNat = some r → P r := by
  intro i i0 i1 r hr
  by_cases e : i = k
  · rw [e, va_up_self] at hr; exact hx r hr
  · rw [va_up_ne _ _ (by omega)] at hr; exact h i i0 i1 r hr
theorem rng_set {c : Nat → Int32} {k lo hi N : Int} {x : Int32} (h : ∀ i : Int, 0 ≤ i → i < N → lo ≤ (c i.toNat).toInt ∧ (c i.toNat).toInt ≤ hi) (hk : 0 ≤ k) (hx : lo ≤ x.toInt ∧ x.toInt ≤ hi) : ∀ i : Int, 0 ≤ i → i < N → lo ≤ (upd c k.toNat x i.toNat).toInt ∧ (upd c k.toNat x i.toNat).toInt ≤ hi := by
  intro i i0 i1
  by_cases e : i = k
  · rw [e, pk_us]; exact hx
  · rw [un_i i0 hk e]; exact h i i0 i1
theorem and255 (x : Int32) : 0 ≤ (x &&& 255).toInt ∧ (x &&& 255).toInt ≤ 255 := by
  obtain ⟨j, hj, e⟩ := pk_andE x (m := 255) 8 (by decide)
  rw [e, nI_toInt (by omega)]
  omega
theorem lkn (d x : Int) : Op.lookupswitch.offset [] d x = d := rfl
theorem lkc {a b d x : Int} {ps : List (Int × Int)} (h : a ≠ x) (hr : Op.lookupswitch.offset ps d x = d) : Op.lookupswitch.offset ((a, b) :: ps) d x = d := by
  simp only [Op.lookupswitch.offset]
  rw [if_neg (by simpa using h)]
  exact hr
theorem i_max {x y z : Int32} {u v : Int} (hu : x.toInt = u) (hv : y.toInt = v) (h : z = if x < y then y else x) : u ≤ z.toInt ∧ v ≤ z.toInt ∧ (z.toInt = u ∨ z.toInt = v) := by
  by_cases q : x < y
  · rw [if_pos q] at h
    have := Int32.lt_iff_toInt_lt.mp q
    subst h; omega
  · rw [if_neg q] at h
    have := Int32.le_iff_toInt_le.mp (Int32.not_lt.mp q)
    subst h; omega
theorem i_min {x y z : Int32} {u v : Int} (hu : x.toInt = u) (hv : y.toInt = v) (h : z = if y < x then y else x) : z.toInt ≤ u ∧ z.toInt ≤ v ∧ (z.toInt = u ∨ z.toInt = v) := by
  by_cases q : y < x
  · rw [if_pos q] at h
    have := Int32.lt_iff_toInt_lt.mp q
    subst h; omega
  · rw [if_neg q] at h
    have := Int32.le_iff_toInt_le.mp (Int32.not_lt.mp q)
    subst h; omega
theorem xor_neg {x y : Int32} (hy : 0 < y.toInt) : ((x ^^^ y).toInt < 0 ↔ x.toInt < 0) := by
  have e : ∀ z : Int32, z.toInt < 0 ↔ z.toBitVec.msb = true := fun z => by
    show z.toBitVec.toInt < 0 ↔ _
    rw [BitVec.msb_eq_toInt]; simp
  have hy2 : y.toBitVec.msb = false := by
    cases h : y.toBitVec.msb with
    | false => rfl
    | true => have := (e y).mpr h; omega
  rw [e, e, Int32.toBitVec_xor, BitVec.msb_xor, hy2]
  simp
theorem tm_sign (u : Int) {v : Int} (hv : 0 < v) : (0 ≤ u → 0 ≤ u.tmod v) ∧ (u ≤ 0 → u.tmod v ≤ 0) := by
  refine ⟨fun h => Int.tmod_nonneg _ h, fun h => ?_⟩
  have := Int.tmod_nonneg (a := -u) v (by omega)
  rw [Int.neg_tmod] at this
  omega
theorem td_sign (u : Int) {v : Int} (hv : 0 < v) : 0 ≤ u → u.tdiv v = u / v := fun h => Int.tdiv_eq_ediv_of_nonneg h
/-- a method of a class that has entries of its own, where this one has none -/
theorem ofWF {l : Launch} {y : MethodName} {ws ws' : List Cond} {rm : Room} {Pc : Array Value → State → Prop} {Qc : Array Value → State → Outcome → State → Prop} {mc ms : Nat} {free : Addr → Prop} {cc : ByteArray} {maxL : Nat} {ret : Option FieldType} (hy : plainFor y = true) (hw : ws = Cond.code y cc maxL ret :: ws')
    (body : ∀ p e s m args below meth c s₁, BodyLoose p l y (headSpec ws rm) cc maxL ret e s m args below meth c s₁ → c.maxLocals = maxL → Pc args s → W p l e (headSpec ws rm).room s m args below meth c s.heap [] 0 0 (MQ below Qc args s mc ms free) (entryFrame m args maxL)) : Met l y ws rm Pc Qc mc ms free := by
  refine MetFree.of_bodySF (code := cc) (maxLocals := maxL) (ret := ret) hy (fun args s m h hn => ?_) (fun p e s m args below meth c s₁ B hml hP _ => ?_)
  · obtain ⟨meth, c, h1, h2, h3, h4, h5, h6, -, -⟩ := Cond.code_spec hn (atoms_spec (ws := ws) h _ (by rw [hw]; exact List.mem_cons_self))
    exact ⟨meth, c, h1, h2, h3, h4, h5, h6⟩
  · obtain ⟨t, a1, o, b1, b2, b3⟩ := body p e s m args below meth c s₁ B hml hP s₁ (by rw [B.state]; rfl) (Stand.of_body B)
    exact ⟨t, o, a1, b1, b2, b3.1, b3.2⟩
theorem goF {l : Launch} {y : MethodName} {ws ws' : List Cond} {rm : Room} {D : va_G} {cI cR cM : ClassId} {av : List Value} {sz : Nat} {wc : va_W} {Qc : Array Value → State → Outcome → State → Prop} {mc ms : Nat} {free : Addr → Prop} {cc : ByteArray} {maxL : Nat} {ret : Option FieldType} (hy : plainFor y = true) (hw : ws = Cond.code y cc maxL ret :: ws') (hlen : (lg_sl av).length ≤ maxL)
    (body : ∀ (p : Program) (e : Env) (s : State) (m : MethodId) (below : List Frame) (meth : Method) (c : Code) (ls : Array Slot) (args : Array Value) (Q : State → Prop), Q = MQ below Qc args s mc ms free → s.heap.size = sz → p.tables.exec = Jvm.exec → c.code = cc → meth.sig.returnType = ret → c.maxLocals = maxL → (∀ w ∈ ws, w.before args s = true) → s.vm.findClass y.cls = some m.cls → meth.locks = false → meth.name = y.name → va_P D vwCl wc s.heap → KK D cI cR cM s → va_D (fun _ => True) wc → lv_has ls maxL (lv_args 0 av) → W p l e rm s m args below meth c s.heap [] 0 0 Q (F0 m 0 ls [])) : Met l y ws rm (P0 D cI cR cM av sz wc) Qc mc ms free := by
  refine ofWF (cc := cc) (maxL := maxL) (ret := ret) hy hw ?_
  intro p e s m args below meth c s₁ B hml hv
  obtain ⟨rfl, hsz, hP, hK, hD⟩ := hv
  have hl := lv_entry av (n := maxL) hlen
  rw [lg_entry_eq]
  exact body p e s m below meth c _ _ _ rfl hsz B.exec B.bytes B.returns hml (atoms_spec (ws := ws) B.pre) (findClass_of_methodNamed B.named) B.notSynchronized (name_of_methodNamed B.named B.method).1 hP hK hD hl
section HLPU
variable {p : Program} {l : Launch} {e : Env} {R : Room} {s : State} {m : MethodId} {args : Array Value} {below : List Frame} {meth : Method} {c : Code} {H : Heap} {locs : List Loc} {cells slots : Nat} {Q : State → Prop}
variable {cc : ByteArray} {pc : Nat} {ls : Array Slot} {rest st0 : List Value} {D : va_G} {cl : List vw_C} {A : Nat → Prop} {a : Nat} {tys : List (ClassId × FieldType)} {ws wc wr : va_W} {H0 : Heap} {av : Array Value} {mc ms : Nat}
variable {L : List Nat} {f : Nat → va_E}

theorem t_copy (hx : p.tables.exec = Jvm.exec) (hb : c.code = cc) (hml : c.maxLocals = ls.size) {own : String} {index : Nat} (hown : s.vm.findClass own = some m.cls) (hlink : (Cond.methodLink own index arraycopyName).before args s = true) (hnat : (Cond.native arraycopyName).before args s = true) (hstat : (Cond.static arraycopyName).before args s = true) (hini : (Cond.initialized "java/lang/System").before args s = true)
    (hK : va_K D cl tys s) (hP : va_P D cl (va_pl L f) H) (hD : va_D A (va_pl L f)) (hS : va_S A H0 H locs) (t0 : Nat) {a0 : Nat} {c0 : ClassId} {n0 n1 : Nat} {x y : Nat → Int32} (hm0 : a0 ∈ L) (hf0 : f a0 = .inl (c0, n0, .inl x)) (hm : a ∈ L) (hf : f a = .inl (c0, n1, .inl y)) (ht0 : tys[t0]? = some (c0, .int))
    {sp dp n : Int32} (h1 : 0 ≤ sp.toInt) (h2 : 0 ≤ dp.toInt) (h3 : 0 ≤ n.toInt) (h4 : sp.toInt + n.toInt ≤ n0) (h5 : dp.toInt + n.toInt ≤ n1)
    (hframes : 1 ≤ R.frames) (hlocals : (rest.map fun v => v.category).sum + (nativeFrameWords "java/lang/System" "arraycopy" 5 + 11) ≤ R.locals) (hdg : decode cc pc = .ok (.invokestatic index, 3))
    (kk : ∀ (k : Nat → Int32) (f1 : Nat → va_E) (H1 : Heap) (locs1 : List Loc), k = va_cpy x y sp.toInt.toNat dp.toInt.toNat n.toInt.toNat → f1 a = .inl (c0, n1, .inl k) → (∀ b, b ≠ a → f1 b = f b) → va_P D cl (va_pl L f1) H1 → va_D A (va_pl L f1) → va_S A H0 H1 locs1 → W p l e R s m args below meth c H1 locs1 cells slots Q (F0 m (pc + 3) ls rest)) : W p l e R s m args below meth c H locs cells slots Q (F0 m pc ls (.int n :: .int dp :: .ref a :: .int sp :: .ref a0 :: rest)) := by
  obtain ⟨q0, e0⟩ := pl_at (f := f) hm0
  obtain ⟨q1, e10⟩ := pl_at (f := f) hm
  have e1 := e10
  rw [hf0] at e0
  rw [hf] at e1
  have nl : ∀ z : Int32, 0 ≤ z.toInt → ¬ z < 0 := fun z h q => by have h9 := Int32.lt_iff_toInt_lt.mp q; have : (0 : Int32).toInt = 0 := rfl; omega
  refine va_copyi hx hb hml hown hlink hnat hstat hini hK hP hD hS q0 q1 t0 t0 e0 e1 ht0 ht0 rfl (nl _ h1) (nl _ h2) (nl _ h3) (by show sp.toInt.toNat + n.toInt.toNat ≤ _; omega) (by show dp.toInt.toNat + n.toInt.toNat ≤ _; omega) (fun i _ => rfl) hframes hlocals hdg (fun H1 L1 hP1 hD1 hS1 => ?_)
  rw [pl_set hD hm e10] at hP1 hD1
  exact kk _ _ H1 L1 rfl (va_up_self _ _ _) (fun b h => va_up_ne _ _ h) hP1 hD1 hS1
/-- a call of a method whose world is one cell -/
theorem call_1 {S : Type} {ans : S → Option Value} {w1 : S → va_E} {post : S → Prop} {ea : va_E} (hr : va_Run p l e R s m args below meth c H locs cells slots mc ms (F0 m pc ls st0) rest (QG ans (fun u => [(a, w1 u)]) post D (va_A [(a, ea)] H.size) av) (va_A [(a, ea)] H.size)) (hP : va_P D vwCl (va_pl L f) H) (hD : va_D A (va_pl L f)) (hS : va_S A H0 H locs) (hA : ∀ q, H0.size ≤ q → A q) (hm : a ∈ L)
    (kk : ∀ (u : S) (f1 : Nat → va_E) (H1 : Heap) (locs1 : List Loc), post u → f1 a = w1 u → (∀ b, b ≠ a → f1 b = f b) → va_P D vwCl (va_pl L f1) H1 → va_D A (va_pl L f1) → va_S A H0 H1 locs1 → W p l e R s m args below meth c H1 locs1 (cells + mc) (slots + ms) Q (F0 m (pc + 3) ls ((ans u).toList ++ rest))) : W p l e R s m args below meth c H locs cells slots Q (F0 m pc ls st0) := by
  obtain ⟨q0, e0⟩ := pl_at (f := f) hm
  have hAa : A a := hD.2 q0 _ e0
  have hF : ∀ q, va_A [(a, ea)] H.size q → A q := fun q h => by
    rcases h with ⟨k, e, h⟩ | h
    · have hk : k < 1 := (List.getElem?_eq_some_iff.mp h).1
      rw [show k = 0 by omega] at h
      cases h
      exact hAa
    · exact hA q (Nat.le_trans hS.1 h)
  intro T hT X
  obtain ⟨v', st₀, t, T', L9, h0, X', hL, e1, e2, ⟨⟨u, hv, hp, hP1, hD1⟩, hz, hk⟩, st⟩ := hr T hT X
  cases hv
  rw [h0] at hz hk
  rw [← e1] at hP1
  have hk2 : ∀ q : Nat, q < H.size → q ≠ a → T'.heap[q]? = H[q]? := fun q h h2 => by
    rw [e1]
    refine hk q h (fun z => ?_)
    rcases z with ⟨k, e, z⟩ | z
    · have hk : k < 1 := (List.getElem?_eq_some_iff.mp z).1
      rw [show k = 0 by omega] at z
      cases z
      exact h2 rfl
    · omega
  have hz2 : H.size ≤ T'.heap.size := by rw [e1]; exact hz
  have hPn : va_P D vwCl (va_pl L (va_up f a (w1 u))) T'.heap := by
    intro k q hq
    simp only [va_pl, List.getElem?_map] at hq
    cases hb : L[k]? with
    | none => rw [hb] at hq; cases hq
    | some b =>
      rw [hb] at hq
      cases hq
      by_cases hba : b = a
      · subst hba
        show va_at D vwCl (b, va_up f b (w1 u) b) _
        rw [va_up_self]
        exact hP1 0 _ rfl
      · show va_at D vwCl (b, va_up f a (w1 u) b) _
        rw [va_up_ne _ _ hba]
        have h3 : va_at D vwCl (b, f b) H := hP k (b, f b) (by simp only [va_pl, List.getElem?_map, hb]; rfl)
        exact h3.kept (hk2 b h3.lt hba)
  have hDn : va_D A (va_pl L (va_up f a (w1 u))) := by
    rw [← pl_set hD hm e0]
    exact hD.set e0
  obtain ⟨t2, a1, b1⟩ := kk u (va_up f a (w1 u)) T'.heap (locs ++ L9) hp (va_up_self _ _ _) (fun b h => va_up_ne _ _ h) hPn hDn
    ⟨Nat.le_trans hS.1 hz2, fun q h1 h2 => by rw [hk2 q (Nat.lt_of_lt_of_le h1 hS.1) (fun z => h2 (by rw [z]; exact hAa))]; exact hS.2.1 q h1 h2, fun q hq => by
      rcases List.mem_append.mp hq with h | h
      · exact hS.2.2 q h
      · exact hF _ (hL q h)⟩ T' rfl X'
  exact ⟨t2, st t2 a1, b1⟩
end HLPU
