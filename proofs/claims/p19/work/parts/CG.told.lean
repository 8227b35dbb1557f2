/-- the reader's rows for the letters, and the book, while a text is told -/
def TlR (cI cR : ClassId) (jn : Nat) (g lv gr : Nat → Nat) (S : Sg) (f : Nat → va_E) (T le : Int) (Ev : Int → Env1) (E : Env1) (F : Int → Int) (cb : Nat → Option Nat) (tm : Int32) : Prop := f (g 20) = refs cR 488 cb ∧ f (g 12) = .inr (0, [.ref (g 20), .ref (g 21), .int tm, .int tm]) ∧ tm.toInt = T + 1 ∧ (∀ t l : Int, 0 ≤ t → t ≤ T → 0 ≤ l → l < 8 → Pg cI jn g lv gr S f cb (8 * t + l) (Ev t l)) ∧ (∀ l : Int, 0 ≤ l → l < 8 → (l < le ∨ F l ≠ 1) → Pg cI jn g lv gr S f cb (8 * (T + 1) + l) (E l)) ∧ (∃ ch, f (g 23) = refs cR 8 ch ∧ ∀ k : Nat, k < 8 → ch k = some (gr k)) ∧ ∀ l : Int, 0 ≤ l → l < 8 → (F l = 1 → 0 < (E l).1 ∧ RWf cI jn S f (gr l.toNat) (E l).1 (E l).2) ∧ (F l ≠ 1 → ∃ w9, RWf cI jn S f (gr l.toNat) 0 w9)
theorem Tl_0 {cI cR : ClassId} {jn : Nat} {g lv gr : Nat → Nat} {S : Sg} {f f1 : Nat → va_E} {L : List Nat} {T lk : Int} {Ev : Int → Env1} {E : Env1} {F : Int → Int} {cb c1 : Nat → Option Nat} {tm lk9 tm1 : Int32} (hG : SG g L S) (hE : EnvC cI cR jn g lv gr S f E F) (hB : ∀ t l : Int, 0 ≤ t → t ≤ T → 0 ≤ l → l < 8 → Pg cI jn g lv gr S f cb (8 * t + l) (Ev t l)) (h20 : f (g 20) = refs cR 488 cb) (h12 : f (g 12) = .inr (0, [.ref (g 20), .ref (g 21), .int tm, .int lk9])) (hT : tm.toInt = T) (hT0 : 0 ≤ T) (hF : FR S [12, 20, 21] f f1) (hX : FX S (fun _ => False) [12, 20, 21] f f1) (k20 : f1 (g 20) = refs cR 488 c1) (k12 : f1 (g 12) = .inr (0, [.ref (g 20), .ref (g 21), .int tm1, .int tm1])) (kt : tm1.toInt = tm.toInt + 1) (k1 : ∀ i9 : Int, 0 ≤ i9 → i9 < 8 * (tm.toInt + 1) → c1 i9.toNat = cb i9.toNat) (k2 : ∀ l9 : Int, 0 ≤ l9 → l9 < 8 → c1 (8 * (tm.toInt + 1) + l9).toNat = cb (8 * tm.toInt + l9).toNat) : TlR cI cR jn g lv gr S f1 T 0 Ev E F c1 tm1 := by
  obtain ⟨⟨ch, e1, e2⟩, cb', tm', lk', e3, e4, e5⟩ := hE
  rw [h20] at e3
  cases e3
  rw [h12] at e4
  cases e4
  have hx : ∀ r, ¬ NR g lv gr r → ¬ (fun _ : Nat => False) r := fun _ _ h => h
  refine ⟨k20, k12, by omega, fun t l t0 t1 l0 l1 => Pg_cb (Pg_fx (hB t l t0 t1 l0 l1) hX (by decide) hx) (k1 _ (by omega) (by omega)), fun l l0 l1 q => ?_, ⟨ch, by rw [hF _ (by rw [gs_23 hG]; decide)]; exact e1, e2⟩, fun l l0 l1 => ?_⟩
  · obtain ⟨q1, q2⟩ := e5 l l0 l1
    have q3 := (q2 (by omega)).2
    refine Pg_cb (cb := cb) (i := 8 * T + l) (Pg_fx ?_ hX (by decide) hx) (by rw [← hT]; exact k2 l l0 l1)
    rw [← hT]; exact q3
  · obtain ⟨q1, q2⟩ := e5 l l0 l1
    refine ⟨fun q => ⟨(q1 q).1, RWf_fx (q1 q).2 hX (fun h => h) (by decide)⟩, fun q => ?_⟩
    obtain ⟨⟨w9, q3⟩, -⟩ := q2 q
    exact ⟨w9, RWf_fx q3 hX (fun h => h) (by decide)⟩
/-- over a wider world -/
theorem Tl_ext {cI cR cM : ClassId} {jn : Nat} {g lv gr : Nat → Nat} {L L1 : List Nat} {S S1 : Sg} {f f1 : Nat → va_E} {T le : Int} {Ev : Int → Env1} {E : Env1} {F : Int → Int} {cb : Nat → Option Nat} {tm : Int32} (h : TlR cI cR jn g lv gr S f T le Ev E F cb tm) (hG : SG g L S) (hI : IN jn cI cR cM g L S f) (hX : EXT L S L1 S1) (hF : FRX L S [2, 3, 21] f f1) (hT : 0 ≤ T ∧ T < 60) : TlR cI cR jn g lv gr S1 f1 T le Ev E F cb tm := by
  obtain ⟨h1, h2, h3, h4, h5, ⟨ch, h6, h7⟩, h8⟩ := h
  obtain ⟨c9, a1, a2⟩ := op_20 hI (gm_20 hG) (gs_20 hG)
  have e1 := ref_in h1 a1
  subst e1
  obtain ⟨d9, b1, b2⟩ := op_23 hI (gm_23 hG) (gs_23 hG)
  have e2 := ref_in h6 b1
  subst e2
  have gi : ∀ l : Int, 0 ≤ l → l < 8 → ∃ p n, isRow L S (gr l.toNat) p n := fun l l0 l1 => by
    obtain ⟨r, p, n, q1, q2⟩ := b2 l l0 l1
    rw [h7 l.toNat (by omega)] at q1
    cases q1
    exact ⟨p, n, q2⟩
  refine ⟨by rw [hF _ (gm_20 hG) (by rw [gs_20 hG]; decide)]; exact h1, by rw [hF _ (gm_12 hG) (by rw [gs_12 hG]; decide)]; exact h2, h3, fun t l t0 t1 l0 l1 => Pg_ext (h4 t l t0 t1 l0 l1) hI (fun r hr => a2 (8 * t + l) (by omega) (by omega) r hr) hX hF (by decide), fun l l0 l1 q => Pg_ext (h5 l l0 l1 q) hI (fun r hr => a2 (8 * (T + 1) + l) (by omega) (by omega) r hr) hX hF (by decide), ⟨_, by rw [hF _ (gm_23 hG) (by rw [gs_23 hG]; decide)]; exact h6, h7⟩, fun l l0 l1 => ?_⟩
  obtain ⟨p, n, hr⟩ := gi l l0 l1
  exact ⟨fun q => ⟨((h8 l l0 l1).1 q).1, RWf_ext ((h8 l l0 l1).1 q).2 hI hr hX hF (by decide)⟩, fun q => by
    obtain ⟨w9, q9⟩ := (h8 l l0 l1).2 q
    exact ⟨w9, RWf_ext q9 hI hr hX hF (by decide)⟩⟩
/-- a letter is written -/
theorem Tl_w {cI cR : ClassId} {jn : Nat} {g lv gr : Nat → Nat} {L : List Nat} {S : Sg} {f f1 : Nat → va_E} {T le le1 : Int} {Ev : Int → Env1} {E : Env1} {F : Int → Int} {cb : Nat → Option Nat} {tm : Int32} {r : Nat} (h : TlR cI cR jn g lv gr S f T le Ev E F cb tm) (hG : SG g L S) (hF : FR S [20] f f1) (hX : FX S (fun _ => False) [20] f f1) (hT : 0 ≤ T) (l0 : 0 ≤ le) (l1 : le < 8) (hl : le1 = le + 1) (k20 : f1 (g 20) = refs cR 488 (va_up cb (8 * tm.toInt + le).toNat (some r))) (hr : RWf cI jn S f r (E le).1 (E le).2) (hp : 0 < (E le).1) (hn : ¬ NR g lv gr r) : TlR cI cR jn g lv gr S f1 T le1 Ev E F (va_up cb (8 * tm.toInt + le).toNat (some r)) tm := by
  obtain ⟨h1, h2, h3, h4, h5, ⟨ch, h6, h7⟩, h8⟩ := h
  have hx : ∀ r, ¬ NR g lv gr r → ¬ (fun _ : Nat => False) r := fun _ _ h => h
  refine ⟨k20, by rw [hF _ (by rw [gs_12 hG]; decide)]; exact h2, h3, fun t l t0 t1 m0 m1 => Pg_cb (Pg_fx (h4 t l t0 t1 m0 m1) hX (by decide) hx) (va_up_ne _ _ (by omega)), fun l m0 m1 q => ?_, ⟨_, by rw [hF _ (by rw [gs_23 hG]; decide)]; exact h6, h7⟩, fun l m0 m1 => ⟨fun q => ⟨((h8 l m0 m1).1 q).1, RWf_fx ((h8 l m0 m1).1 q).2 hX (fun h => h) (by decide)⟩, fun q => ?_⟩⟩
  · by_cases e : l = le
    · subst e
      refine Or.inr ⟨r, ?_, hp, RWf_fx hr hX (fun h => h) (by decide), hn⟩
      rw [show (8 * (T + 1) + l).toNat = (8 * tm.toInt + l).toNat by omega]
      exact va_up_self _ _ _
    · exact Pg_cb (Pg_fx (h5 l m0 m1 (by omega)) hX (by decide) hx) (va_up_ne _ _ (by omega))
  · obtain ⟨w9, q9⟩ := (h8 l m0 m1).2 q
    exact ⟨w9, RWf_fx q9 hX (fun h => h) (by decide)⟩
theorem Tl_s {cI cR : ClassId} {jn : Nat} {g lv gr : Nat → Nat} {S : Sg} {f : Nat → va_E} {T le le1 : Int} {Ev : Int → Env1} {E : Env1} {F : Int → Int} {cb : Nat → Option Nat} {tm : Int32} (h : TlR cI cR jn g lv gr S f T le Ev E F cb tm) (hl : le1 = le + 1) (hn : F le ≠ 1) : TlR cI cR jn g lv gr S f T le1 Ev E F cb tm := by
  obtain ⟨h1, h2, h3, h4, h5, h6, h8⟩ := h
  refine ⟨h1, h2, h3, h4, fun l m0 m1 q => h5 l m0 m1 ?_, h6, h8⟩
  by_cases e : l = le
  · exact Or.inr (by rw [e]; exact hn)
  · omega
theorem Tl_end {cI cR : ClassId} {jn : Nat} {g lv gr : Nat → Nat} {S : Sg} {f : Nat → va_E} {T : Int} {Ev : Int → Env1} {E : Env1} {F : Int → Int} {cb : Nat → Option Nat} {tm : Int32} {le : Int} (h : TlR cI cR jn g lv gr S f T le Ev E F cb tm) (hl : 8 ≤ le) : BkR cI cR jn g lv gr S f (T + 1) (T + 1) (evp Ev (T + 1) E) := by
  obtain ⟨h1, h2, h3, h4, h5, h6, h8⟩ := h
  refine ⟨cb, tm, tm, h1, h2, h3, h3, fun t l t0 t1 l0 l1 => ?_⟩
  by_cases e : t = T + 1
  · rw [e, ev_s]; exact h5 l l0 l1 (by omega)
  · rw [ev_n e]; exact h4 t l t0 (by omega) l0 l1
theorem BkR_ext {cI cR cM : ClassId} {jn : Nat} {g lv gr : Nat → Nat} {L L1 : List Nat} {S S1 : Sg} {f f1 : Nat → va_E} {T lk : Int} {Ev : Int → Env1} {T9 : List Nat} (h : BkR cI cR jn g lv gr S f T lk Ev) (hG : SG g L S) (hI : IN jn cI cR cM g L S f) (hX : EXT L S L1 S1) (hF : FRX L S T9 f f1) (ht : ∀ t ∈ ([0, 1, 12, 20] : List Nat), t ∉ T9) (hT : T ≤ 60) : BkR cI cR jn g lv gr S1 f1 T lk Ev := by
  obtain ⟨cb, tm, lk9, h1, h2, h3, h4, h5⟩ := h
  obtain ⟨c9, a1, a2⟩ := op_20 hI (gm_20 hG) (gs_20 hG)
  have e1 := ref_in h1 a1
  subst e1
  exact ⟨_, tm, lk9, by rw [hF _ (gm_20 hG) (by rw [gs_20 hG]; exact ht 20 (by decide))]; exact h1, by rw [hF _ (gm_12 hG) (by rw [gs_12 hG]; exact ht 12 (by decide))]; exact h2, h3, h4, fun t l t0 t1 l0 l1 => Pg_ext (h5 t l t0 t1 l0 l1) hI (fun r hr => a2 (8 * t + l) (by omega) (by omega) r hr) hX hF ⟨ht 0 (by decide), ht 1 (by decide)⟩⟩
theorem FRX_mono {L : List Nat} {S : Sg} {T T1 : List Nat} {f f1 : Nat → va_E} (h : FRX L S T f f1) (ht : ∀ t ∈ T, t ∈ T1) : FRX L S T1 f f1 := fun b hb hn => h b hb (fun q => hn (ht _ q))
theorem FR_FX {S : Sg} {T : List Nat} {f f1 : Nat → va_E} (h : FR S T f f1) : FX S (fun _ => False) T f f1 := fun a _ ha => h a ha
theorem BkR_fr {cI cR : ClassId} {jn : Nat} {g lv gr : Nat → Nat} {L : List Nat} {S : Sg} {f f1 : Nat → va_E} {T lk : Int} {Ev : Int → Env1} {T9 : List Nat} (h : BkR cI cR jn g lv gr S f T lk Ev) (hG : SG g L S) (hF : FR S T9 f f1) (ht : ∀ t ∈ ([0, 1, 12, 20] : List Nat), t ∉ T9) : BkR cI cR jn g lv gr S f1 T lk Ev := by
  obtain ⟨cb, tm, lk9, h1, h2, h3, h4, h5⟩ := h
  exact ⟨cb, tm, lk9, by rw [hF _ (by rw [gs_20 hG]; exact ht 20 (by decide))]; exact h1, by rw [hF _ (by rw [gs_12 hG]; exact ht 12 (by decide))]; exact h2, h3, h4, fun t l t0 t1 l0 l1 => Pg_fx (h5 t l t0 t1 l0 l1) (FR_FX hF) ⟨ht 0 (by decide), ht 1 (by decide)⟩ (fun _ _ h => h)⟩
theorem Tl_gr {cI cR : ClassId} {jn : Nat} {g lv gr : Nat → Nat} {S : Sg} {f : Nat → va_E} {T le : Int} {Ev : Int → Env1} {E : Env1} {F : Int → Int} {cb : Nat → Option Nat} {tm : Int32} {c : Nat → Option Nat} {l : Int} {r : Nat} (h : TlR cI cR jn g lv gr S f T le Ev E F cb tm) (hf : f (g 23) = .inl (cR, 8, .inr (.inr (.inr (.inr c))))) (l0 : 0 ≤ l) (l1 : l < 8) (hc : c l.toNat = some r) : r = gr l.toNat := by
  obtain ⟨-, -, -, -, -, ⟨ch, h6, h7⟩, -⟩ := h
  rw [ref_in h6 hf, h7 l.toNat (by omega)] at hc
  cases hc
  rfl
theorem Tl_len {cI cR : ClassId} {jn : Nat} {g lv gr : Nat → Nat} {S : Sg} {f : Nat → va_E} {T le : Int} {Ev : Int → Env1} {E : Env1} {F : Int → Int} {cb : Nat → Option Nat} {tm : Int32} {l : Int} {r p N : Nat} {len : Int32} {c : Nat → Int32} (h : TlR cI cR jn g lv gr S f T le Ev E F cb tm) (l0 : 0 ≤ l) (l1 : l < 8) (hr9 : r = gr l.toNat) (hs : S r = (0, p, N)) (h1 : f r = .inr (5, [.int (nI jn), .int (nI (2 * jn)), .ref p, .int len])) (h2 : f p = .inl (cI, N, .inl c)) : (0 < len.toInt → F l = 1) ∧ (len.toInt ≤ 0 → F l ≠ 1) ∧ (F l = 1 → 0 < (E l).1 ∧ len.toInt = (E l).1 ∧ RC c (E l).2 (E l).1) := by
  obtain ⟨-, -, -, -, -, -, h8⟩ := h
  obtain ⟨q1, q2⟩ := h8 l l0 l1
  rw [← hr9] at q1 q2
  refine ⟨fun e => ?_, fun e e2 => ?_, fun q => ?_⟩
  · by_cases q : F l = 1
    · exact q
    · obtain ⟨w9, q3⟩ := q2 q
      obtain ⟨b1, b2⟩ := RWf_at q3 hs h1 h2
      omega
  · obtain ⟨a1, a2⟩ := q1 e2
    obtain ⟨b1, b2⟩ := RWf_at a2 hs h1 h2
    omega
  · obtain ⟨a1, a2⟩ := q1 q
    obtain ⟨b1, b2⟩ := RWf_at a2 hs h1 h2
    exact ⟨a1, b1, b2⟩
set_option maxRecDepth 100000 in
set_option maxHeartbeats 4000000 in
theorem t_X3_copym (l : Launch) (D : va_G) (cI cR cM : ClassId) (sz : Nat) {jn : Nat} {g : Nat → Nat} {L : List Nat} {S : Sg} {f : Nat → va_E} {b b_p : Nat} {b_l : Int32} {b_c : Nat → Int32}  (hj : 1 ≤ jn ∧ jn ≤ 3) (hG : SG g L S) (hI : IN jn cI cR cM g L S f) (m_b : b ∈ L) (s_b : S b = (2, b_p, 0)) (f_b : f b = .inr (3, [.ref b_p, .int b_l])) (f_b_p : f b_p = .inl (cI, 7, .inl b_c)) (hj1 : jn = 1) (hOW : OWN L S) : Met l yX3_copy wsX3_copy ({ frames := 2, cells := 2, slots := 9, locals := 33 }) (P0 D cI cR cM [.ref b] sz (va_pl L f)) (QG (S := Nat × List Nat × Sg × (Nat → va_E)) (fun u => some (.ref u.1)) (fun u => va_pl (u.2.1) (u.2.2.2)) (fun u => EXT L S u.2.1 u.2.2.1 ∧ IN jn cI cR cM g u.2.1 u.2.2.1 u.2.2.2 ∧ FRX L S [2, 3] f (u.2.2.2) ∧ (∃ p9, isMk (u.2.1) (u.2.2.1) (u.1) p9) ∧ (OWN (u.2.1) (u.2.2.1))) D (va_A (va_pl L f) sz)) 2 9 (va_A (va_pl L f) sz) := by
  refine go (cc := cX3_copy) (maxL := 3) (ret := (some (.object "JugglingHall$Marks"))) (by decide +kernel) rfl (Nat.le_of_ble_eq_true rfl) ?_
  intro p e s m below meth c ls args Q hQ hsz hx hb hr hml hts hown hlocks hnm hP hK hD hl
  subst hsz
  have hD := hD.self (sz := s.heap.size)
  generalize hAe : va_A (va_pl L f) s.heap.size = A at hD hQ
  have hA : ∀ q, s.heap.size ≤ q → A q := fun q h => by rw [← hAe]; exact Or.inr h
  have hS : va_S A s.heap s.heap [] := va_S.rf
  obtain ⟨L0, eL0⟩ : ∃ x, x = L := ⟨_, rfl⟩
  obtain ⟨S0, eS0⟩ : ∃ x, x = S := ⟨_, rfl⟩
  have hX : EXT L0 S0 L S := by rw [eL0, eS0]; exact EXT_rf
  have hF : FRX L0 S0 [2, 3] f f := FRX_rf
  have hl : lv_has ls 3 [(0, .ref b)] := hl
  obtain ⟨v1_b, v2_b, m_b_p, s_b_p⟩ := iv_2 hI m_b s_b f_b
  refine va_new (D := D) (ci := 3) (fs := [.null, .int 0]) (C := RX3) (T := TX3) (N := 2) hx hb hts (by decide +kernel) tyX3 tyX3_ok hown (hts (.classLink RX3 10 RX3) (by decide +kernel)) (hts (.instantiable RX3 2) (by decide +kernel)) (hts (.initialized RX3) (by decide +kernel)) hK.1 hP hD hS hA rfl (fun j hj => by rcases (show j = 0 ∨ j = 1 by omega) with rfl | rfl <;> rfl) (Nat.le_of_ble_eq_true rfl) (Nat.le_of_ble_eq_true rfl) dX3_copy_0 (fun o_1 H hP hD hS => ?_)
  have hPo : va_P D vwCl ([(o_1, .inr (3, [.null, .int 0]))] ++ va_pl L f) H := swP hP
  have hDo : va_D A ([(o_1, .inr (3, [.null, .int 0]))] ++ va_pl L f) := swD hD
  have hP := tail_P hPo
  have hD := tail_D hDo
  refine W.widen (k := 1) (n := 2) (Nat.le_of_ble_eq_true rfl) (Nat.le_of_ble_eq_true rfl) ?_
  refine lv_dup hx hb dX3_copy_3 rfl ?_
  have hP1 := head_P hPo
  have hD1 := d_one o_1 (.inr (3, [.null, .int 0]))
  refine call_new (a := o_1) (eo := .inr (3, [.null, .int 0])) (L := L) (f := f) (va_runI (As := []) (rest := [.ref o_1]) ⟨hx, hb, hml, hown, hts⟩ (c_Marks_init l D cI cR cM _ o_1) (cwI 0 hts ggX3_copy_X3_init rfl rfl rfl (hts (.initialized RX3) (by decide +kernel)) (hts (.methodLink RX3 19 yX3_init) (by decide +kernel)) (hts (.instanceMethod yX3_init) (by decide +kernel)) rfl (by decide +kernel) ⟨Nat.le_of_ble_eq_true rfl, Nat.le_of_ble_eq_true rfl⟩) (pre_S hK hP1 hD1) rfl rfl hl.1 rfl (lv_room (Nat.le_of_ble_eq_true rfl)) dX3_copy_4 ⟨Nat.le_of_ble_eq_true rfl, Nat.le_of_ble_eq_true rfl⟩) hPo hDo hS hA (fun u_2 H locs hw hP hD hS => ?_)
  have hP : va_P D vwCl ([(o_1, .inr (3, [.ref (u_2 0), .int 0])), ((u_2 0), .inl (cI, 7, .inl (fun _ => 0)))] ++ va_pl L f) H := hP
  have hD : va_D A ([(o_1, .inr (3, [.ref (u_2 0), .int 0])), ((u_2 0), .inl (cI, 7, .inl (fun _ => 0)))] ++ va_pl L f) := hD
  obtain ⟨f_2, fo_2, fq_2, hfL_2, ho_2, hq_2, hoq_2, hP, hD⟩ := absorb hP hD
  have fb_3 : f_2 b = .inr (3, [.ref b_p, .int b_l]) := (hfL_2 _ m_b).trans f_b
  have fb_4 : f_2 b_p = .inl (cI, 7, .inl b_c) := (hfL_2 _ m_b_p).trans f_b_p
  have hF := FRX_trX (T1 := []) hF hX (fun b hb _ => hfL_2 b hb) (fun t ht => absurd ht (List.not_mem_nil))
  obtain ⟨L, S, hX_2, mo_2, so_2, mq_2, sq_2, hI_2, hel_2, hP, hD⟩ : ∃ (L1 : List Nat) (S1 : Sg), EXT L S L1 S1 ∧ o_1 ∈ L1 ∧ S1 o_1 = (2, (u_2 0), 0) ∧ (u_2 0) ∈ L1 ∧ S1 (u_2 0) = (3, 0, o_1) ∧ IN jn cI cR cM g L1 S1 f_2 ∧ (∀ a9, a9 ∈ L1 → a9 ∈ L0 ∨ a9 = o_1 ∨ a9 = (u_2 0)) ∧ va_P D vwCl (va_pl L1 f_2) H ∧ va_D A (va_pl L1 f_2) := by
    obtain ⟨S1, h1, h2, h3, h4⟩ := newMk hI ho_2 hq_2 hoq_2 hfL_2 fo_2 fq_2
    exact ⟨_, S1, h1, by simp, h2, by simp, h3, h4, fun a9 h9 => by rw [eL0]; simpa [or_assoc] using h9, hP, hD⟩
  have su_5 := (hX_2 _ m_b).2.trans s_b
  have mu_5 := (hX_2 _ m_b).1
  have su_6 := (hX_2 _ m_b_p).2.trans s_b_p
  have mu_6 := (hX_2 _ m_b_p).1
  have hX := EXT_tr hX hX_2
  have hG := SG_ext hX_2 hG
  have hI := hI_2
  refine W.widen (k := 2) (n := 9) (Nat.le_of_ble_eq_true rfl) (Nat.le_of_ble_eq_true rfl) ?_
  refine lv_astore_n (lv' := [(1, .ref o_1), (0, .ref b)]) hx hb dX3_copy_7 rfl hl (by decide) rfl (fun ls hl => ?_)
  refine lv_iconst (v := 0) hx hb dX3_copy_8 (by decide) ?_
  refine lv_istore_n (lv' := [(2, .int 0), (1, .ref o_1), (0, .ref b)]) hx hb dX3_copy_9 rfl hl (by decide) rfl (fun ls hl => ?_)
  have loop10 : ∀ (ddloop10 : Nat) (ii : Int32) (f_7 : Nat → va_E) (H : Heap) (locs : List Loc) (ls : Array Slot), (20 - ii.toInt).toNat < ddloop10 → IN jn cI cR cM g L S f_7 → FRX L0 S0 [2, 3] f f_7 → (0 ≤ ii.toInt ∧ ii.toInt ≤ 7) → va_P D vwCl (va_pl L f_7) H → va_D A (va_pl L f_7) → va_S A s.heap H locs → lv_has ls 3 [(0, .ref b), (1, .ref o_1), (2, .int ii)] → W p l e ({ frames := 2, cells := 2, slots := 9, locals := 33 }) s m args below meth c H locs (2) (9) Q (F0 m 10 ls []) := by
    intro ddloop10
    induction ddloop10 with
    | zero =>
      intro ii f_7 H locs ls hdd
      exact absurd hdd (Nat.not_lt_zero _)
    | succ ddloop10 ih10 =>
      intro ii f_7 H locs ls hdd hI hF hi hP hD hS hl
      refine lv_iload_n hx hb dX3_copy_10 rfl (lv_at hl 2 rfl) ?_
      refine lv_aload_n hx hb dX3_copy_11 rfl (lv_at hl 0 rfl) ?_
      obtain ⟨cnt_8, fg_8, v1_8, v2_8, mp_8, sp_8⟩ := op_2 hI mu_5 su_5
      refine t_get (D := D) (L := L) (f := f_7) (ci := 3) (v := .int cnt_8) (C := RX3) (T := TX3) (N := 2) hx hb hts (by decide +kernel) hown hK.1 hP mu_5 fg_8 rfl 1 (by decide) (hts (.fieldLink RX3 15 "JugglingHall$Marks" "count" "I") (by decide +kernel)) (fun _ h9 => h9) rfl dX3_copy_12 ?_
      refine a_icmp_ge (u := ii.toInt) (v := cnt_8.toInt) (tgt := 35) hx hb dX3_copy_15 (by decide) (rfl) (rfl) (fun c_9 => ?_) (fun c_9 => ?_)
      · refine lv_aload_n hx hb dX3_copy_35 rfl (lv_at hl 1 rfl) ?_
        exact g_aret (o_1, L, S, f_7) hx hb hr hlocks hS rfl (⟨EXT_c eL0 eS0 hX, hI, FRX_c eL0 eS0 hF, (⟨_, mo_2, so_2⟩), (fun a9 h9 q9 => by
          have q9 : (S a9).1 = 1 := q9
          show (S a9).2.2 ∈ L
          rcases hel_2 a9 h9 with h8 | h8 | h8
          · rw [(hX a9 h8).2] at q9 ⊢
            exact (hX _ (by have h7 := hOW a9 (by rw [← eL0]; exact h8); rw [← eS0, ← eL0] at h7; exact h7 q9)).1
          · rw [h8, so_2] at q9; cases q9
          · rw [h8, sq_2] at q9; cases q9)⟩) hP hD hQ (Nat.le_of_ble_eq_true rfl) (Nat.le_of_ble_eq_true rfl) dX3_copy_36
      · refine lv_aload_n hx hb dX3_copy_18 rfl (lv_at hl 1 rfl) ?_
        refine lv_aload_n hx hb dX3_copy_19 rfl (lv_at hl 0 rfl) ?_
        refine t_get (D := D) (L := L) (f := f_7) (ci := 3) (v := .ref b_p) (C := RX3) (T := TX3) (N := 2) hx hb hts (by decide +kernel) hown hK.1 hP mu_5 fg_8 rfl 0 (by decide) (hts (.fieldLink RX3 9 "JugglingHall$Marks" "heights" "[I") (by decide +kernel)) (fun _ h9 => h9) rfl dX3_copy_20 ?_
        refine lv_iload_n hx hb dX3_copy_23 rfl (lv_at hl 2 rfl) ?_
        obtain ⟨c_10, fg_10⟩ := op_3 hI mu_6 su_6
        refine t_iald (L := L) (f := f_7) (y := c_10) (u := ii.toInt) hx hb hK.1 hP mu_6 0 fg_10 rfl dX3_copy_24 (rfl) (by subst hj1; omega) (fun z_11 q_11 e_11 => ?_)
        obtain ⟨cnt_12, fg_12, v1_12, v2_12, mp_12, sp_12⟩ := op_2 hI mo_2 so_2
        obtain ⟨c_13, fg_13⟩ := op_3 hI mq_2 sq_2
        refine call_p (va_runV (As := [.int z_11]) (rest := []) ⟨hx, hb, hml, hown, hts⟩ (t_X3_writem l D cI cR cM _   hj hG hI mo_2 so_2 fg_12 fg_13 (by first | assumption | omega | (subst hj1; omega))) (cwV 1 hts gX3_copy_X3_write rfl rfl rfl (by decide +kernel) ⟨Nat.le_of_ble_eq_true rfl, Nat.le_of_ble_eq_true rfl⟩) (pre_T hK hP hD mo_2 fg_12 rfl) rfl rfl hl.1 rfl (lv_room (Nat.le_of_ble_eq_true rfl)) dX3_copy_25 ⟨Nat.le_of_ble_eq_true rfl, Nat.le_of_ble_eq_true rfl⟩) hD hS hA (fun u_14 H locs hw hP hD hS => ?_)
        obtain ⟨r_14, f_14⟩ := u_14
        obtain ⟨hI, hF_14, hp_14, hfx_14, h01_14⟩ : IN jn cI cR cM g L S f_14 ∧ FR S [2, 3] f_7 f_14 ∧ ((r_14.toInt = 1 ∧ cnt_12.toInt < 7 ∧ CNf f_14 o_1 (cnt_12.toInt + 1)) ∨ (r_14.toInt = 0 ∧ 7 ≤ cnt_12.toInt)) ∧ (FX S (fun _ => False) [2, 3] f_7 f_14) ∧ (r_14.toInt = 0 ∨ r_14.toInt = 1) := hw
        have hP : va_P D vwCl (va_pl L f_14) H := hP
        have hD : va_D A (va_pl L f_14) := hD
        have hF := FRX_tr hF hX hF_14 (by decide)
        refine lv_pop hx hb dX3_copy_28 rfl ?_
        obtain ⟨z_15, q_15, e_15⟩ := i_inc (a := ii.toInt) (1) (rfl) (by decide) (by subst hj1; omega) (by subst hj1; omega)
        refine lv_iinc (v := z_15) (lv' := [(2, .int z_15), (0, .ref b), (1, .ref o_1)]) hx hb dX3_copy_29 hl (k := 2) rfl q_15 (by decide) rfl (fun ls hl => ?_)
        refine lv_goto (tgt := 10) hx hb dX3_copy_32 (by decide) ?_
        refine W.widen (k := 2) (n := 9) (by subst hj1; omega) (by subst hj1; omega) ?_
        exact ih10 z_15 f_14 _ _ _ (by subst hj1; omega) hI hF (by first | assumption | omega | (subst hj1; omega)) hP hD hS (lv_sub hl [1, 2, 0] rfl)
  have hz_16 : (0 : Int32).toInt = 0 := by decide
  refine W.widen (k := 2) (n := 9) (by subst hj1; omega) (by subst hj1; omega) ?_
  exact loop10 ((20 - (0 : Int32).toInt).toNat + 1) (0 : Int32) f_2 _ _ _ (by subst hj1; omega) hI hF (by first | assumption | omega | (subst hj1; omega)) hP hD hS (lv_sub hl [2, 1, 0] rfl)
set_option maxRecDepth 100000 in
set_option maxHeartbeats 4000000 in
theorem t_X4_tellAllm (l : Launch) (D : va_G) (cI cR cM : ClassId) (sz : Nat) {jn : Nat} {g : Nat → Nat} {L : List Nat} {S : Sg} {f : Nat → va_E} {lv gr : Nat → Nat} {E : Env1} {F : Int → Int} {Ev : Int → Env1} {T9 lk9 : Int} (hj : 1 ≤ jn ∧ jn ≤ 3) (hG : SG g L S) (hI : IN jn cI cR cM g L S f) (hj1 : jn = 1) (hEC : EnvC cI cR jn g lv gr S f E F) (hBk : BkR cI cR jn g lv gr S f T9 lk9 Ev) (hT9 : 0 ≤ T9 ∧ T9 < 60) (hOW : OWN L S) (hNL : ∀ a9, NR g lv gr a9 → a9 ∈ L) : Met l yX4_tellAll wsX4_tellAll ({ frames := 4, cells := 18, slots := 1193, locals := 130 }) (P0 D cI cR cM [.ref (g 13)] sz (va_pl L f)) (QG (S := List Nat × Sg × (Nat → va_E)) (fun u => none) (fun u => va_pl (u.1) (u.2.2)) (fun u => EXT L S u.1 u.2.1 ∧ IN jn cI cR cM g u.1 u.2.1 u.2.2 ∧ FRX L S [2, 3, 12, 20, 21] f (u.2.2) ∧ (BkR cI cR jn g lv gr (u.2.1) (u.2.2) (T9 + 1) (T9 + 1) (evp Ev (T9 + 1) E)) ∧ (OWN (u.1) (u.2.1))) D (va_A (va_pl L f) sz)) 18 1193 (va_A (va_pl L f) sz) := by
  refine go (cc := cX4_tellAll) (maxL := 2) (ret := none) (by decide +kernel) rfl (Nat.le_of_ble_eq_true rfl) ?_
  intro p e s m below meth c ls args Q hQ hsz hx hb hr hml hts hown hlocks hnm hP hK hD hl
  subst hsz
  have hD := hD.self (sz := s.heap.size)
  generalize hAe : va_A (va_pl L f) s.heap.size = A at hD hQ
  have hA : ∀ q, s.heap.size ≤ q → A q := fun q h => by rw [← hAe]; exact Or.inr h
  have hS : va_S A s.heap s.heap [] := va_S.rf
  obtain ⟨L0, eL0⟩ : ∃ x, x = L := ⟨_, rfl⟩
  obtain ⟨S0, eS0⟩ : ∃ x, x = S := ⟨_, rfl⟩
  have hX : EXT L0 S0 L S := by rw [eL0, eS0]; exact EXT_rf
  have hF : FRX L0 S0 [2, 3, 12, 20, 21] f f := FRX_rf
  have hl : lv_has ls 2 [(0, .ref (g 13))] := hl
  obtain ⟨cb0, tm0, lk0, q20, q12, qT, qlk, qP⟩ := hBk
  refine lv_aload_n hx hb dX4_tellAll_0 rfl (lv_at hl 0 rfl) ?_
  obtain ⟨fa_1, pl_1, fg_1⟩ := op_13 hI (gm_13 hG) (gs_13 hG)
  refine t_get (D := D) (L := L) (f := f) (ci := 4) (v := .ref (g 12)) (C := RX4) (T := TX4) (N := 11) hx hb hts (by decide +kernel) hown hK.1 hP (gm_13 hG) fg_1 rfl 2 (by decide) (hts (.fieldLink RX4 45 "JugglingHall$Reader" "book" "LJugglingHall$Book;") (by decide +kernel)) (fun _ h9 => h9) rfl dX4_tellAll_1 ?_
  obtain ⟨tm_2, lk_2, fg_2, iv0_2, iv1_2, iv2_2⟩ := op_12 hI (gm_12 hG) (gs_12 hG)
  refine call_p (va_runV (As := []) (rest := []) ⟨hx, hb, hml, hown, hts⟩ (t_X0_turnPagem l D cI cR cM _ (cb := cb0) (tm := tm0) (lk := lk0)  hj hG hI  (by first | assumption | omega | (subst hj1; omega)) (q20) (q12) (by subst hj1; omega)) (cwV 0 hts gX4_tellAll_X0_turnPage rfl rfl rfl (by decide +kernel) ⟨Nat.le_of_ble_eq_true rfl, Nat.le_of_ble_eq_true rfl⟩) (pre_T hK hP hD (gm_12 hG) fg_2 rfl) rfl rfl hl.1 rfl (lv_room (Nat.le_of_ble_eq_true rfl)) dX4_tellAll_4 ⟨Nat.le_of_ble_eq_true rfl, Nat.le_of_ble_eq_true rfl⟩) hD hS hA (fun u_3 H locs hw hP hD hS => ?_)
  obtain ⟨f_3, e0_3⟩ : ∃ x, x = u_3 := ⟨_, rfl⟩
  subst e0_3
  obtain ⟨hI, hF_3, hp_3, hfx_3⟩ : IN jn cI cR cM g L S f_3 ∧ FR S [12, 20, 21] f f_3 ∧ (∃ (c1 : Nat → Option Nat) (tm1 : Int32), f_3 (g 20) = refs cR 488 c1 ∧ f_3 (g 12) = .inr (0, [.ref (g 20), .ref (g 21), .int tm1, .int tm1]) ∧ tm1.toInt = tm0.toInt + 1 ∧ (∀ i9 : Int, 0 ≤ i9 → i9 < 8 * (tm0.toInt + 1) → c1 i9.toNat = cb0 i9.toNat) ∧ ∀ l9 : Int, 0 ≤ l9 → l9 < 8 → c1 (8 * (tm0.toInt + 1) + l9).toNat = cb0 (8 * tm0.toInt + l9).toNat) ∧ (FX S (fun _ => False) [12, 20, 21] f f_3) := hw
  have hP : va_P D vwCl (va_pl L f_3) H := hP
  have hD : va_D A (va_pl L f_3) := hD
  have hF := FRX_tr hF hX hF_3 (by decide)
  have fb_4 : f_3 (g 13) = .inr (4, [.int (nI jn), .ref (g 14), .ref (g 12), .ref (g 22), .ref (g 34), .ref (g 23), .ref (g 24), .ref (g 25), .ref (g 26), .int fa_1, .int pl_1]) := FR_at hF_3 (gs_13 hG) (show (13 : Nat) ∉ ([12, 20, 21] : List Nat) by decide) fg_1
  obtain ⟨c1_, tm1_, k20, k12, kt, k1, k2⟩ := hp_3
  have hTl0 := Tl_0 (Ev := Ev) (lk := lk9) hG hEC qP q20 q12 qT (by subst hj1; omega) hF_3 hfx_3 k20 k12 kt k1 k2
  refine lv_iconst (v := 0) hx hb dX4_tellAll_7 (by decide) ?_
  refine lv_istore_n (lv' := [(1, .int 0), (0, .ref (g 13))]) hx hb dX4_tellAll_8 rfl hl (by decide) rfl (fun ls hl => ?_)
  have loop9 : ∀ (ddloop9 : Nat) (le : Int32) (f_5 : Nat → va_E) (L9 : List Nat) (S9 : Sg) (H : Heap) (locs : List Loc) (ls : Array Slot), (20 - le.toInt).toNat < ddloop9 → EXT L0 S0 L9 S9 → SG g L9 S9 → IN jn cI cR cM g L9 S9 f_5 → FRX L0 S0 [2, 3, 12, 20, 21] f f_5 → (0 ≤ le.toInt ∧ le.toInt ≤ 8) → (Hd (∃ (cb9 : Nat → Option Nat) (tm9 : Int32), TlR cI cR jn g lv gr S9 f_5 T9 le.toInt Ev E F cb9 tm9)) → (OWN L9 S9) → va_P D vwCl (va_pl L9 f_5) H → va_D A (va_pl L9 f_5) → va_S A s.heap H locs → lv_has ls 2 [(0, .ref (g 13)), (1, .int le)] → W p l e ({ frames := 4, cells := 18, slots := 1193, locals := 130 }) s m args below meth c H locs (2 * le.toInt.toNat) (148 * le.toInt.toNat) Q (F0 m 9 ls []) := by
    intro ddloop9
    induction ddloop9 with
    | zero =>
      intro le f_5 L S H locs ls hdd
      exact absurd hdd (Nat.not_lt_zero _)
    | succ ddloop9 ih9 =>
      intro le f_5 L S H locs ls hdd hX hG hI hF hi hTlx hOWl hP hD hS hl
      obtain ⟨cb9, tm9, hTl⟩ := hTlx
      refine lv_iload_n hx hb dX4_tellAll_9 rfl (lv_at hl 1 rfl) ?_
      refine lv_aload_n hx hb dX4_tellAll_10 rfl (lv_at hl 0 rfl) ?_
      obtain ⟨fa_6, pl_6, fg_6⟩ := op_13 hI (gm_13 hG) (gs_13 hG)
      refine t_get (D := D) (L := L) (f := f_5) (ci := 4) (v := .ref (g 23)) (C := RX4) (T := TX4) (N := 11) hx hb hts (by decide +kernel) hown hK.1 hP (gm_13 hG) fg_6 rfl 5 (by decide) (hts (.fieldLink RX4 21 "JugglingHall$Reader" "here" "[LJugglingHall$Row;") (by decide +kernel)) (fun _ h9 => h9) rfl dX4_tellAll_11 ?_
      obtain ⟨c_7, fg_7, iv0_7⟩ := op_23 hI (gm_23 hG) (gs_23 hG)
      refine t_alen (L := L) (f := f_5) (v := 8) hx hb hK.1 hP (gm_23 hG) 1 fg_7 rfl rfl dX4_tellAll_14 ?_
      refine a_icmp_ge (u := le.toInt) (v := 8) (tgt := 53) hx hb dX4_tellAll_15 (by decide) (rfl) (by decide) (fun c_8 => ?_) (fun c_8 => ?_)
      · have hBk1 := Tl_end hTl (by subst hj1; omega)
        refine lv_aload_n hx hb dX4_tellAll_53 rfl (lv_at hl 0 rfl) ?_
        refine t_get (D := D) (L := L) (f := f_5) (ci := 4) (v := .ref (g 26)) (C := RX4) (T := TX4) (N := 11) hx hb hts (by decide +kernel) hown hK.1 hP (gm_13 hG) fg_6 rfl 8 (by decide) (hts (.fieldLink RX4 27 "JugglingHall$Reader" "marks" "LJugglingHall$Marks;") (by decide +kernel)) (fun _ h9 => h9) rfl dX4_tellAll_54 ?_
        obtain ⟨p_9, m_9, s_9⟩ := hG.2.2.2
        obtain ⟨cnt_10, fg_10, v1_10, v2_10, mp_10, sp_10⟩ := op_2 hI m_9 s_9
        refine t_getN (D := D) (L := L) (f := f_5) (ci := 3) (v := .int cnt_10) (C := RX3) (T := TX3) (N := 2) (host := "JugglingHall") hx hb hts (by decide +kernel) hown hK.1 hP m_9 fg_10 rfl 1 (by decide) (hK.nw (.fieldLinkNest RX4 59 "JugglingHall$Marks" "count" "I" "JugglingHall") (by decide +kernel) rfl) (fun _ h9 => h9) rfl dX4_tellAll_57 ?_
        refine a_if_le (u := cnt_10.toInt) (tgt := 77) hx hb dX4_tellAll_60 (by decide) (rfl) (fun c_11 => ?_) (fun c_11 => ?_)
        · exact g_vret (L, S, f_5) hx hb hr hlocks hS rfl (⟨EXT_c eL0 eS0 hX, hI, FRX_c eL0 eS0 hF, (hBk1), (hOWl)⟩) hP hD hQ (by show 2 * le.toInt.toNat ≤ 18; omega) (by show 148 * le.toInt.toNat ≤ 1193; omega) dX4_tellAll_77
        · refine lv_aload_n hx hb dX4_tellAll_63 rfl (lv_at hl 0 rfl) ?_
          refine t_get (D := D) (L := L) (f := f_5) (ci := 4) (v := .ref (g 12)) (C := RX4) (T := TX4) (N := 11) hx hb hts (by decide +kernel) hown hK.1 hP (gm_13 hG) fg_6 rfl 2 (by decide) (hts (.fieldLink RX4 45 "JugglingHall$Reader" "book" "LJugglingHall$Book;") (by decide +kernel)) (fun _ h9 => h9) rfl dX4_tellAll_64 ?_
          refine lv_aload_n hx hb dX4_tellAll_67 rfl (lv_at hl 0 rfl) ?_
          refine t_get (D := D) (L := L) (f := f_5) (ci := 4) (v := .ref (g 26)) (C := RX4) (T := TX4) (N := 11) hx hb hts (by decide +kernel) hown hK.1 hP (gm_13 hG) fg_6 rfl 8 (by decide) (hts (.fieldLink RX4 27 "JugglingHall$Reader" "marks" "LJugglingHall$Marks;") (by decide +kernel)) (fun _ h9 => h9) rfl dX4_tellAll_68 ?_
          have hGo := hG
          have hIo := hI
          obtain ⟨c_12, fg_12⟩ := op_3 hI mp_10 sp_10
          refine call_p (va_runV (As := []) (rest := [.ref (g 12)]) ⟨hx, hb, hml, hown, hts⟩ (t_X3_copym l D cI cR cM _   hj hG hI m_9 s_9 fg_10 fg_12 (by first | assumption | omega | (subst hj1; omega)) (hOWl)) (cwV 0 hts gX4_tellAll_X3_copy rfl rfl rfl (by decide +kernel) ⟨Nat.le_of_ble_eq_true rfl, Nat.le_of_ble_eq_true rfl⟩) (pre_T hK hP hD m_9 fg_10 rfl) rfl rfl hl.1 rfl (lv_room (Nat.le_of_ble_eq_true rfl)) dX4_tellAll_71 ⟨(by show 2 * le.toInt.toNat + 2 ≤ 18; omega), (by show 148 * le.toInt.toNat + 9 ≤ 1193; omega)⟩) hD hS hA (fun u_13 H locs hw hP hD hS => ?_)
          obtain ⟨r_13, L, S, f_13⟩ := u_13
          dsimp only at hw hP hD
          obtain ⟨hX_13, hI_13, hF_13, ho_13, hOW_13⟩ := hw
          have fb_14 : f_13 (g 13) = .inr (4, [.int (nI jn), .ref (g 14), .ref (g 12), .ref (g 22), .ref (g 34), .ref (g 23), .ref (g 24), .ref (g 25), .ref (g 26), .int fa_6, .int pl_6]) := FRX_at hF_13 (gm_13 hG) (gs_13 hG) (show (13 : Nat) ∉ ([2, 3] : List Nat) by decide) fg_6
          have fb_15 : f_13 (g 23) = .inl (cR, 8, .inr (.inr (.inr (.inr c_7)))) := FRX_at hF_13 (gm_23 hG) (gs_23 hG) (show (23 : Nat) ∉ ([2, 3] : List Nat) by decide) fg_7
          have su_16 := (hX_13 _ m_9).2.trans s_9
          have mu_16 := (hX_13 _ m_9).1
          have su_17 := (hX_13 _ mp_10).2.trans sp_10
          have mu_17 := (hX_13 _ mp_10).1
          have hF := FRX_trX hF hX hF_13 (by decide)
          have hX := EXT_tr hX hX_13
          have hG := SG_ext hX_13 hG
          have hI := hI_13
          obtain ⟨p_18, m_18, s_18⟩ := ho_13
          have hBk2 := BkR_ext hBk1 hGo hIo hX_13 hF_13 (by decide) (by subst hj1; omega)
          obtain ⟨tm_19, lk_19, fg_19, iv0_19, iv1_19, iv2_19⟩ := op_12 hI (gm_12 hG) (gs_12 hG)
          obtain ⟨cnt_20, fg_20, v1_20, v2_20, mp_20, sp_20⟩ := op_2 hI m_18 s_18
          obtain ⟨c_21, fg_21⟩ := op_3 hI mp_20 sp_20
          refine call_p (va_runV (As := [.ref r_13]) (rest := []) ⟨hx, hb, hml, hown, hts⟩ (t_X0_writeMarks l D cI cR cM _   hj hG hI m_18 s_18 fg_20 fg_21 ) (cwV 1 hts gX4_tellAll_X0_writeMarks rfl rfl rfl (by decide +kernel) ⟨Nat.le_of_ble_eq_true rfl, Nat.le_of_ble_eq_true rfl⟩) (pre_T hK hP hD (gm_12 hG) fg_19 rfl) rfl rfl hl.1 rfl (lv_room (Nat.le_of_ble_eq_true rfl)) dX4_tellAll_74 ⟨(by show 2 * le.toInt.toNat + 2 + 0 ≤ 18; omega), (by show 148 * le.toInt.toNat + 9 + 0 ≤ 1193; omega)⟩) hD hS hA (fun u_22 H locs hw hP hD hS => ?_)
          obtain ⟨f_22, e0_22⟩ : ∃ x, x = u_22 := ⟨_, rfl⟩
          subst e0_22
          obtain ⟨hI, hF_22⟩ : IN jn cI cR cM g L S f_22 ∧ FR S [21] f_13 f_22 := hw
          have hP : va_P D vwCl (va_pl L f_22) H := hP
          have hD : va_D A (va_pl L f_22) := hD
          have hF := FRX_tr hF hX hF_22 (by decide)
          have fb_23 : f_22 (g 13) = .inr (4, [.int (nI jn), .ref (g 14), .ref (g 12), .ref (g 22), .ref (g 34), .ref (g 23), .ref (g 24), .ref (g 25), .ref (g 26), .int fa_6, .int pl_6]) := FR_at hF_22 (gs_13 hG) (show (13 : Nat) ∉ ([21] : List Nat) by decide) fb_14
          have fb_24 : f_22 (g 23) = .inl (cR, 8, .inr (.inr (.inr (.inr c_7)))) := FR_at hF_22 (gs_23 hG) (show (23 : Nat) ∉ ([21] : List Nat) by decide) fb_15
          have fb_25 : f_22 (g 12) = .inr (0, [.ref (g 20), .ref (g 21), .int tm_19, .int lk_19]) := FR_at hF_22 (gs_12 hG) (show (12 : Nat) ∉ ([21] : List Nat) by decide) fg_19
          have fb_26 : f_22 r_13 = .inr (3, [.ref p_18, .int cnt_20]) := FR_at hF_22 s_18 (show (2 : Nat) ∉ ([21] : List Nat) by decide) fg_20
          have fb_27 : f_22 p_18 = .inl (cI, 7, .inl c_21) := FR_at hF_22 sp_20 (show (3 : Nat) ∉ ([21] : List Nat) by decide) fg_21
          exact g_vret (L, S, f_22) hx hb hr hlocks hS rfl (⟨EXT_c eL0 eS0 hX, hI, FRX_c eL0 eS0 hF, (BkR_fr hBk2 hG hF_22 (by decide)), (hOW_13)⟩) hP hD hQ (by show 2 * le.toInt.toNat + 2 ≤ 18; omega) (by show 148 * le.toInt.toNat + 9 ≤ 1193; omega) dX4_tellAll_77
      · refine lv_aload_n hx hb dX4_tellAll_18 rfl (lv_at hl 0 rfl) ?_
        refine t_get (D := D) (L := L) (f := f_5) (ci := 4) (v := .ref (g 23)) (C := RX4) (T := TX4) (N := 11) hx hb hts (by decide +kernel) hown hK.1 hP (gm_13 hG) fg_6 rfl 5 (by decide) (hts (.fieldLink RX4 21 "JugglingHall$Reader" "here" "[LJugglingHall$Row;") (by decide +kernel)) (fun _ h9 => h9) rfl dX4_tellAll_19 ?_
        refine lv_iload_n hx hb dX4_tellAll_22 rfl (lv_at hl 1 rfl) ?_
        refine t_aald (L := L) (f := f_5) (y := c_7) (u := le.toInt) hx hb hK.1 hP (gm_23 hG) 1 fg_7 rfl dX4_tellAll_23 (rfl) (by subst hj1; omega) (fun w_28 q_28 => ?_)
        obtain ⟨r_28, p_28, n_28, er_28, m_28, s_28⟩ := iv0_7 le.toInt (by subst hj1; omega) (by subst hj1; omega)
        have q_28 := q_28.trans er_28
        subst q_28
        refine W.eq (g2 := F0 m 24 ls [.ref r_28]) rfl ?_
        have hh_28 : r_28 = gr le.toInt.toNat := Tl_gr (l := le.toInt) hTl fg_7 (by subst hj1; omega) (by subst hj1; omega) (by rw [show le.toInt = le.toInt by omega]; exact er_28)
        obtain ⟨len_29, fg_29, v1_29, v2_29, v3_29, mp_29, sp_29⟩ := op_0 hI m_28 s_28
        obtain ⟨w1_29, w2_29, w3_29, w4_29, w5_29⟩ := lenw hj v1_29 v2_29 v3_29
        obtain ⟨c_30, fg_30, iv0_30⟩ := op_1 hI mp_29 sp_29
        obtain ⟨ha_28, hb_28, hd_28⟩ := Tl_len hTl (l := le.toInt) (by subst hj1; omega) (by subst hj1; omega) hh_28 s_28 fg_29 fg_30
        refine t_getN (D := D) (L := L) (f := f_5) (ci := 5) (v := .int len_29) (C := RX5) (T := TX5) (N := 4) (host := "JugglingHall") hx hb hts (by decide +kernel) hown hK.1 hP m_28 fg_29 rfl 3 (by decide) (hK.nw (.fieldLinkNest RX4 62 "JugglingHall$Row" "length" "I" "JugglingHall") (by decide +kernel) rfl) (fun _ h9 => h9) rfl dX4_tellAll_24 ?_
        refine a_if_le (u := len_29.toInt) (tgt := 47) hx hb dX4_tellAll_27 (by decide) (rfl) (fun c_31 => ?_) (fun c_31 => ?_)
        · obtain ⟨z_32, q_32, e_32⟩ := i_inc (a := le.toInt) (1) (rfl) (by decide) (by subst hj1; omega) (by subst hj1; omega)
          refine lv_iinc (v := z_32) (lv' := [(1, .int z_32), (0, .ref (g 13))]) hx hb dX4_tellAll_47 hl (k := 1) rfl q_32 (by decide) rfl (fun ls hl => ?_)
          refine lv_goto (tgt := 9) hx hb dX4_tellAll_50 (by decide) ?_
          refine W.widen (k := 2 * z_32.toInt.toNat) (n := 148 * z_32.toInt.toNat) (by subst hj1; omega) (by subst hj1; omega) ?_
          exact ih9 z_32 f_5 L S _ _ _ (by subst hj1; omega) hX hG hI hF (by first | assumption | omega | (subst hj1; omega)) (⟨cb9, tm9, Tl_s hTl (by subst hj1; omega) (hb_28 (by subst hj1; omega))⟩) (hOWl) hP hD hS (lv_sub hl [1, 0] rfl)
        · refine lv_aload_n hx hb dX4_tellAll_30 rfl (lv_at hl 0 rfl) ?_
          refine t_get (D := D) (L := L) (f := f_5) (ci := 4) (v := .ref (g 12)) (C := RX4) (T := TX4) (N := 11) hx hb hts (by decide +kernel) hown hK.1 hP (gm_13 hG) fg_6 rfl 2 (by decide) (hts (.fieldLink RX4 45 "JugglingHall$Reader" "book" "LJugglingHall$Book;") (by decide +kernel)) (fun _ h9 => h9) rfl dX4_tellAll_31 ?_
          refine lv_iload_n hx hb dX4_tellAll_34 rfl (lv_at hl 1 rfl) ?_
          refine lv_aload_n hx hb dX4_tellAll_35 rfl (lv_at hl 0 rfl) ?_
          refine t_get (D := D) (L := L) (f := f_5) (ci := 4) (v := .ref (g 23)) (C := RX4) (T := TX4) (N := 11) hx hb hts (by decide +kernel) hown hK.1 hP (gm_13 hG) fg_6 rfl 5 (by decide) (hts (.fieldLink RX4 21 "JugglingHall$Reader" "here" "[LJugglingHall$Row;") (by decide +kernel)) (fun _ h9 => h9) rfl dX4_tellAll_36 ?_
          refine lv_iload_n hx hb dX4_tellAll_39 rfl (lv_at hl 1 rfl) ?_
          refine t_aald (L := L) (f := f_5) (y := c_7) (u := le.toInt) hx hb hK.1 hP (gm_23 hG) 1 fg_7 rfl dX4_tellAll_40 (rfl) (by subst hj1; omega) (fun w_33 q_33 => ?_)
          obtain ⟨r_33, p_33, n_33, er_33, m_33, s_33⟩ := iv0_7 le.toInt (by subst hj1; omega) (by subst hj1; omega)
          have q_33 := q_33.trans er_33
          subst q_33
          refine W.eq (g2 := F0 m 41 ls [.ref r_33, .int le, .ref (g 12)]) rfl ?_
          have hh_33 : r_33 = gr le.toInt.toNat := Tl_gr (l := le.toInt) hTl fg_7 (by subst hj1; omega) (by subst hj1; omega) (by rw [show le.toInt = le.toInt by omega]; exact er_33)
          obtain ⟨len_34, fg_34, v1_34, v2_34, v3_34, mp_34, sp_34⟩ := op_0 hI m_33 s_33
          obtain ⟨w1_34, w2_34, w3_34, w4_34, w5_34⟩ := lenw hj v1_34 v2_34 v3_34
          obtain ⟨c_35, fg_35, iv0_35⟩ := op_1 hI mp_34 sp_34
          obtain ⟨ha_33, hb_33, hd_33⟩ := Tl_len hTl (l := le.toInt) (by subst hj1; omega) (by subst hj1; omega) hh_33 s_33 fg_34 fg_35
          obtain ⟨hn0, hn1, hn2⟩ := hd_33 (ha_28 (by subst hj1; omega))
          have hGo := hG
          have hIo := hI
          have hNo : ∀ a9, NR g lv gr a9 → a9 ∈ L := fun a9 h9 => (hX a9 (by rw [eL0]; exact hNL a9 h9)).1
          refine call_p (va_runV (As := []) (rest := [.int le, .ref (g 12)]) ⟨hx, hb, hml, hown, hts⟩ (t_X5_copym l D cI cR cM _ (w := (E le.toInt).2)  hj hG hI m_33 s_33 fg_34 fg_35 (by first | assumption | omega | (subst hj1; omega)) (by rw [hn1]; exact hn2) (hOWl)) (cwV 0 hts gX4_tellAll_X5_copy rfl rfl rfl (by decide +kernel) ⟨Nat.le_of_ble_eq_true rfl, Nat.le_of_ble_eq_true rfl⟩) (pre_T hK hP hD m_33 fg_34 rfl) rfl rfl hl.1 rfl (lv_room (Nat.le_of_ble_eq_true rfl)) dX4_tellAll_41 ⟨(by show 2 * le.toInt.toNat + 2 ≤ 18; omega), (by show 148 * le.toInt.toNat + 148 ≤ 1193; omega)⟩) hD hS hA (fun u_36 H locs hw hP hD hS => ?_)
          obtain ⟨r_36, L, S, f_36⟩ := u_36
          dsimp only at hw hP hD
          obtain ⟨hX_36, hI_36, hF_36, ho_36, hcp_36, hnew_36, hOW_36⟩ := hw
          have fb_37 : f_36 (g 13) = .inr (4, [.int (nI jn), .ref (g 14), .ref (g 12), .ref (g 22), .ref (g 34), .ref (g 23), .ref (g 24), .ref (g 25), .ref (g 26), .int fa_6, .int pl_6]) := FRX_at hF_36 (gm_13 hG) (gs_13 hG) (show (13 : Nat) ∉ ([] : List Nat) by decide) fg_6
          have fb_38 : f_36 (g 23) = .inl (cR, 8, .inr (.inr (.inr (.inr c_7)))) := FRX_at hF_36 (gm_23 hG) (gs_23 hG) (show (23 : Nat) ∉ ([] : List Nat) by decide) fg_7
          have fb_39 : f_36 r_28 = .inr (5, [.int (nI jn), .int (nI (2 * jn)), .ref p_28, .int len_29]) := FRX_at hF_36 m_28 s_28 (show (0 : Nat) ∉ ([] : List Nat) by decide) fg_29
          have fb_40 : f_36 p_28 = .inl (cI, n_28, .inl c_30) := FRX_at hF_36 mp_29 sp_29 (show (1 : Nat) ∉ ([] : List Nat) by decide) fg_30
          have fb_41 : f_36 r_33 = .inr (5, [.int (nI jn), .int (nI (2 * jn)), .ref p_33, .int len_34]) := FRX_at hF_36 m_33 s_33 (show (0 : Nat) ∉ ([] : List Nat) by decide) fg_34
          have fb_42 : f_36 p_33 = .inl (cI, n_33, .inl c_35) := FRX_at hF_36 mp_34 sp_34 (show (1 : Nat) ∉ ([] : List Nat) by decide) fg_35
          have su_43 := (hX_36 _ m_28).2.trans s_28
          have mu_43 := (hX_36 _ m_28).1
          have su_44 := (hX_36 _ mp_29).2.trans sp_29
          have mu_44 := (hX_36 _ mp_29).1
          have su_45 := (hX_36 _ m_33).2.trans s_33
          have mu_45 := (hX_36 _ m_33).1
          have su_46 := (hX_36 _ mp_34).2.trans sp_34
          have mu_46 := (hX_36 _ mp_34).1
          have hF := FRX_trX hF hX hF_36 (by decide)
          have hX := EXT_tr hX hX_36
          have hG := SG_ext hX_36 hG
          have hI := hI_36
          obtain ⟨p_47, n_47, m_47, s_47⟩ := ho_36
          rw [hn1] at hcp_36
          have hTl2 := Tl_ext hTl hGo hIo hX_36 (FRX_mono hF_36 (by decide)) (by subst hj1; omega)
          have hnr : ¬ NR g lv gr r_36 := fun q9 => hnew_36 (hNo _ q9)
          obtain ⟨tm_48, lk_48, fg_48, iv0_48, iv1_48, iv2_48⟩ := op_12 hI (gm_12 hG) (gs_12 hG)
          obtain ⟨len_49, fg_49, v1_49, v2_49, v3_49, mp_49, sp_49⟩ := op_0 hI m_47 s_47
          obtain ⟨w1_49, w2_49, w3_49, w4_49, w5_49⟩ := lenw hj v1_49 v2_49 v3_49
          obtain ⟨c_50, fg_50, iv0_50⟩ := op_1 hI mp_49 sp_49
          refine call_p (va_runV (As := [.int le, .ref r_36]) (rest := []) ⟨hx, hb, hml, hown, hts⟩ (t_X0_writeRowm l D cI cR cM _ (cb := cb9) (tm := tm9) (lk := tm9)  hj hG hI m_47 s_47 fg_49 fg_50 (by first | assumption | omega | (subst hj1; omega)) (hTl2.1) (hTl2.2.1) (by subst hj1; omega)) (cwV 2 hts gX4_tellAll_X0_writeRow rfl rfl rfl (by decide +kernel) ⟨Nat.le_of_ble_eq_true rfl, Nat.le_of_ble_eq_true rfl⟩) (pre_T hK hP hD (gm_12 hG) fg_48 rfl) rfl rfl hl.1 rfl (lv_room (Nat.le_of_ble_eq_true rfl)) dX4_tellAll_44 ⟨(by show 2 * le.toInt.toNat + 2 + 0 ≤ 18; omega), (by show 148 * le.toInt.toNat + 148 + 0 ≤ 1193; omega)⟩) hD hS hA (fun u_51 H locs hw hP hD hS => ?_)
          obtain ⟨f_51, e0_51⟩ : ∃ x, x = u_51 := ⟨_, rfl⟩
          subst e0_51
          obtain ⟨hI, hF_51, hp_51, hfx_51⟩ : IN jn cI cR cM g L S f_51 ∧ FR S [20] f_36 f_51 ∧ (f_51 (g 20) = refs cR 488 (va_up cb9 (8 * tm9.toInt + le.toInt).toNat (some r_36))) ∧ (FX S (fun _ => False) [20] f_36 f_51) := hw
          have hP : va_P D vwCl (va_pl L f_51) H := hP
          have hD : va_D A (va_pl L f_51) := hD
          have hF := FRX_tr hF hX hF_51 (by decide)
          have fb_52 : f_51 (g 13) = .inr (4, [.int (nI jn), .ref (g 14), .ref (g 12), .ref (g 22), .ref (g 34), .ref (g 23), .ref (g 24), .ref (g 25), .ref (g 26), .int fa_6, .int pl_6]) := FR_at hF_51 (gs_13 hG) (show (13 : Nat) ∉ ([20] : List Nat) by decide) fb_37
          have fb_53 : f_51 (g 23) = .inl (cR, 8, .inr (.inr (.inr (.inr c_7)))) := FR_at hF_51 (gs_23 hG) (show (23 : Nat) ∉ ([20] : List Nat) by decide) fb_38
          have fb_54 : f_51 r_28 = .inr (5, [.int (nI jn), .int (nI (2 * jn)), .ref p_28, .int len_29]) := FR_at hF_51 su_43 (show (0 : Nat) ∉ ([20] : List Nat) by decide) fb_39
          have fb_55 : f_51 p_28 = .inl (cI, n_28, .inl c_30) := FR_at hF_51 su_44 (show (1 : Nat) ∉ ([20] : List Nat) by decide) fb_40
          have fb_56 : f_51 r_33 = .inr (5, [.int (nI jn), .int (nI (2 * jn)), .ref p_33, .int len_34]) := FR_at hF_51 su_45 (show (0 : Nat) ∉ ([20] : List Nat) by decide) fb_41
          have fb_57 : f_51 p_33 = .inl (cI, n_33, .inl c_35) := FR_at hF_51 su_46 (show (1 : Nat) ∉ ([20] : List Nat) by decide) fb_42
          have fb_58 : f_51 (g 12) = .inr (0, [.ref (g 20), .ref (g 21), .int tm_48, .int lk_48]) := FR_at hF_51 (gs_12 hG) (show (12 : Nat) ∉ ([20] : List Nat) by decide) fg_48
          have fb_59 : f_51 r_36 = .inr (5, [.int (nI jn), .int (nI (2 * jn)), .ref p_47, .int len_49]) := FR_at hF_51 s_47 (show (0 : Nat) ∉ ([20] : List Nat) by decide) fg_49
          have fb_60 : f_51 p_47 = .inl (cI, n_47, .inl c_50) := FR_at hF_51 sp_49 (show (1 : Nat) ∉ ([20] : List Nat) by decide) fg_50
          obtain ⟨z_61, q_61, e_61⟩ := i_inc (a := le.toInt) (1) (rfl) (by decide) (by subst hj1; omega) (by subst hj1; omega)
          refine lv_iinc (v := z_61) (lv' := [(1, .int z_61), (0, .ref (g 13))]) hx hb dX4_tellAll_47 hl (k := 1) rfl q_61 (by decide) rfl (fun ls hl => ?_)
          refine lv_goto (tgt := 9) hx hb dX4_tellAll_50 (by decide) ?_
          refine W.widen (k := 2 * z_61.toInt.toNat) (n := 148 * z_61.toInt.toNat) (by subst hj1; omega) (by subst hj1; omega) ?_
          exact ih9 z_61 f_51 L S _ _ _ (by subst hj1; omega) hX hG hI hF (by first | assumption | omega | (subst hj1; omega)) (⟨_, tm9, Tl_w (L := L) hTl2 hG hF_51 hfx_51 (by subst hj1; omega) (by subst hj1; omega) (by subst hj1; omega) (by subst hj1; omega) hp_51 hcp_36 hn0 hnr⟩) (hOW_36) hP hD hS (lv_sub hl [1, 0] rfl)
  have hz_62 : (0 : Int32).toInt = 0 := by decide
  refine W.widen (k := 2 * (0 : Int32).toInt.toNat) (n := 148 * (0 : Int32).toInt.toNat) (by subst hj1; omega) (by subst hj1; omega) ?_
  exact loop9 ((20 - (0 : Int32).toInt).toNat + 1) (0 : Int32) f_3 L S _ _ _ (by subst hj1; omega) hX hG hI hF (by first | assumption | omega | (subst hj1; omega)) (⟨c1_, tm1_, by rw [show (0 : Int32).toInt = 0 from rfl]; exact hTl0⟩) (hOW) hP hD hS (lv_sub hl [1, 0] rfl)
