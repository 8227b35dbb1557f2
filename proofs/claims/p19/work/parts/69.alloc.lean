/-- more cells: those that were keep their kind -/
def EXT (L : List Nat) (S : Sg) (L1 : List Nat) (S1 : Sg) : Prop := ∀ a, a ∈ L → a ∈ L1 ∧ S1 a = S a
def FRX (L : List Nat) (S : Sg) (T : List Nat) (f f1 : Nat → va_E) : Prop := ∀ b, b ∈ L → (S b).1 ∉ T → f1 b = f b
theorem EXT_rf {L : List Nat} {S : Sg} : EXT L S L S := fun _ h => ⟨h, rfl⟩
theorem EXT_tr {L L1 L2 : List Nat} {S S1 S2 : Sg} (h : EXT L S L1 S1) (h2 : EXT L1 S1 L2 S2) : EXT L S L2 S2 := fun a ha => ⟨(h2 a (h a ha).1).1, (h2 a (h a ha).1).2.trans (h a ha).2⟩
theorem isRow_ext {L L1 : List Nat} {S S1 : Sg} {r p n : Nat} (hX : EXT L S L1 S1) (h : isRow L S r p n) : isRow L1 S1 r p n := ⟨(hX r h.1).1, (hX r h.1).2.trans h.2⟩
theorem isMk_ext {L L1 : List Nat} {S S1 : Sg} {r p : Nat} (hX : EXT L S L1 S1) (h : isMk L S r p) : isMk L1 S1 r p := ⟨(hX r h.1).1, (hX r h.1).2.trans h.2⟩
theorem SG_ext {g : Nat → Nat} {L L1 : List Nat} {S S1 : Sg} (hX : EXT L S L1 S1) (h : SG g L S) : SG g L1 S1 := by
  obtain ⟨h1, ⟨p2, n2, h2⟩, ⟨p3, n3, h3⟩, ⟨p4, h4⟩⟩ := h
  exact ⟨fun k hk => ⟨(hX _ (h1 k hk).1).1, (hX _ (h1 k hk).1).2.trans (h1 k hk).2⟩, ⟨p2, n2, isRow_ext hX h2⟩, ⟨p3, n3, isRow_ext hX h3⟩, ⟨p4, isMk_ext hX h4⟩⟩
theorem EXT_c {L L1 L0 : List Nat} {S S1 S0 : Sg} (h1 : L0 = L) (h2 : S0 = S) (h : EXT L0 S0 L1 S1) : EXT L S L1 S1 := by
  subst h1 h2
  exact h
theorem FRX_c {L L0 : List Nat} {S S0 : Sg} {T : List Nat} {f f1 : Nat → va_E} (h1 : L0 = L) (h2 : S0 = S) (h : FRX L0 S0 T f f1) : FRX L S T f f1 := by
  subst h1 h2
  exact h
theorem FRX_rf {L : List Nat} {S : Sg} {T : List Nat} {f : Nat → va_E} : FRX L S T f f := fun _ _ _ => rfl
theorem FRX_set {L L1 : List Nat} {S S1 : Sg} {T : List Nat} {f0 f f1 : Nat → va_E} {a : Nat} {q : Nat × Nat × Nat} (h : FRX L S T f0 f) (hX : EXT L S L1 S1) (hs : S1 a = q) (ht : q.1 ∈ T) (o1 : ∀ b, b ≠ a → f1 b = f b) : FRX L S T f0 f1 := fun b hm hb => by
  rw [o1 b (fun e => hb (by rw [← (hX b hm).2, e, hs]; exact ht))]
  exact h b hm hb
theorem FRX_tr {L L1 : List Nat} {S S1 : Sg} {T T1 : List Nat} {f0 f f1 : Nat → va_E} (h : FRX L S T f0 f) (hX : EXT L S L1 S1) (h1 : FR S1 T1 f f1) (ht : ∀ t ∈ T1, t ∈ T) : FRX L S T f0 f1 := fun b hm hb => by
  rw [h1 b (fun e => hb (by rw [(hX b hm).2] at e; exact ht _ e))]
  exact h b hm hb
theorem FRX_trX {L L1 : List Nat} {S S1 : Sg} {T T1 : List Nat} {f0 f f1 : Nat → va_E} (h : FRX L S T f0 f) (hX : EXT L S L1 S1) (h1 : FRX L1 S1 T1 f f1) (ht : ∀ t ∈ T1, t ∈ T) : FRX L S T f0 f1 := fun b hm hb => by
  rw [h1 b (hX b hm).1 (fun e => hb (by rw [(hX b hm).2] at e; exact ht _ e))]
  exact h b hm hb
theorem FRX_at {L : List Nat} {S : Sg} {T : List Nat} {f f1 : Nat → va_E} {a : Nat} {q : Nat × Nat × Nat} {e : va_E} (h : FRX L S T f f1) (hm : a ∈ L) (hs : S a = q) (ht : q.1 ∉ T) (hf : f a = e) : f1 a = e := by
  rw [h a hm (by rw [hs]; exact ht)]
  exact hf
theorem FRX_of {L : List Nat} {S : Sg} {T : List Nat} {f f1 : Nat → va_E} (h : FR S T f f1) : FRX L S T f f1 := fun b _ hb => h b hb
theorem TK_frX {g : Nat → Nat} {cI : ClassId} {L : List Nat} {S : Sg} {f f1 : Nat → va_E} {T : List Nat} (h : TK g cI f) (hG : SG g L S) (hF : FRX L S T f f1) (ht : ∀ t ∈ ([14, 31, 32] : List Nat), t ∉ T) : TK g cI f1 :=
  TK_eq h (hF _ (gm_14 hG) (by rw [gs_14 hG]; exact ht 14 (by decide))) (hF _ (gm_31 hG) (by rw [gs_31 hG]; exact ht 31 (by decide))) (hF _ (gm_32 hG) (by rw [gs_32 hG]; exact ht 32 (by decide)))
theorem okE_in {jn : Nat} {cI cR cM : ClassId} {g : Nat → Nat} {L L1 : List Nat} {S S1 : Sg} (hX : EXT L S L1 S1) {a : Nat} : ∀ (q : Nat × Nat × Nat) (e : va_E), q.1 ∈ ([0, 2, 15, 20, 21, 22, 23] : List Nat) → okE jn cI cR cM g L S a q e → okE jn cI cR cM g L1 S1 a q e := by
  intro q e hq h
  obtain ⟨t, p, n⟩ := q
  have hq : t ∈ ([0, 2, 15, 20, 21, 22, 23] : List Nat) := hq
  simp only [List.mem_cons, List.not_mem_nil, or_false] at hq
  rcases hq with rfl | rfl | rfl | rfl | rfl | rfl | rfl
  · obtain ⟨len, h1, h2, h3, h4, h5, h6⟩ := h
    exact ⟨len, h1, h2, h3, h4, (hX _ h5).1, (hX _ h5).2.trans h6⟩
  · obtain ⟨len, h1, h2, h3, h5, h6⟩ := h
    exact ⟨len, h1, h2, h3, (hX _ h5).1, (hX _ h5).2.trans h6⟩
  · obtain ⟨c1, c2, h1, h2, h3, h4⟩ := h
    exact ⟨c1, c2, h1, h2, h3, fun r hr => by obtain ⟨p9, n9, h9⟩ := h4 r hr; exact ⟨p9, n9, isRow_ext hX h9⟩⟩
  · obtain ⟨c, h1, h2⟩ := h
    exact ⟨c, h1, fun i i0 i1 r hr => by obtain ⟨p9, n9, h9⟩ := h2 i i0 i1 r hr; exact ⟨p9, n9, isRow_ext hX h9⟩⟩
  · obtain ⟨c, h1, h2⟩ := h
    exact ⟨c, h1, fun i i0 i1 r hr => by obtain ⟨p9, h9⟩ := h2 i i0 i1 r hr; exact ⟨p9, isMk_ext hX h9⟩⟩
  · obtain ⟨c, h1, h2⟩ := h
    exact ⟨c, h1, fun i i0 i1 => by obtain ⟨r9, p9, n9, hr, h9⟩ := h2 i i0 i1; exact ⟨r9, p9, n9, hr, isRow_ext hX h9⟩⟩
  · obtain ⟨c, h1, h2⟩ := h
    exact ⟨c, h1, fun i i0 i1 => by obtain ⟨r9, p9, n9, hr, h9⟩ := h2 i i0 i1; exact ⟨r9, p9, n9, hr, isRow_ext hX h9⟩⟩
theorem okE_out {jn : Nat} {cI cR cM : ClassId} {g : Nat → Nat} {L L1 : List Nat} {S S1 : Sg} {a : Nat} (q : Nat × Nat × Nat) (e : va_E) (hq : q.1 ∉ ([0, 2, 15, 20, 21, 22, 23] : List Nat)) (h : okE jn cI cR cM g L S a q e) : okE jn cI cR cM g L1 S1 a q e := by
  obtain ⟨t, p, n⟩ := q
  have hq : t ∉ ([0, 2, 15, 20, 21, 22, 23] : List Nat) := hq
  by_cases h48 : t < 48
  · rcases (show t = 0 ∨ t = 1 ∨ t = 2 ∨ t = 3 ∨ t = 4 ∨ t = 5 ∨ t = 6 ∨ t = 7 ∨ t = 8 ∨ t = 9 ∨ t = 10 ∨ t = 11 ∨ t = 12 ∨ t = 13 ∨ t = 14 ∨ t = 15 ∨ t = 16 ∨ t = 17 ∨ t = 18 ∨ t = 19 ∨ t = 20 ∨ t = 21 ∨ t = 22 ∨ t = 23 ∨ t = 24 ∨ t = 25 ∨ t = 26 ∨ t = 27 ∨ t = 28 ∨ t = 29 ∨ t = 30 ∨ t = 31 ∨ t = 32 ∨ t = 33 ∨ t = 34 ∨ t = 35 ∨ t = 36 ∨ t = 37 ∨ t = 38 ∨ t = 39 ∨ t = 40 ∨ t = 41 ∨ t = 42 ∨ t = 43 ∨ t = 44 ∨ t = 45 ∨ t = 46 ∨ t = 47 by omega) with rfl | rfl | rfl | rfl | rfl | rfl | rfl | rfl | rfl | rfl | rfl | rfl | rfl | rfl | rfl | rfl | rfl | rfl | rfl | rfl | rfl | rfl | rfl | rfl | rfl | rfl | rfl | rfl | rfl | rfl | rfl | rfl | rfl | rfl | rfl | rfl | rfl | rfl | rfl | rfl | rfl | rfl | rfl | rfl | rfl | rfl | rfl | rfl
    all_goals first | exact h | exact absurd (by decide) hq
  · have e1 : okE jn cI cR cM g L1 S1 a (t, p, n) e = True := by
      unfold okE
      split <;> first | rfl | (rename_i h9; cases h9; omega)
    rw [e1]; trivial
theorem okE_mono {jn : Nat} {cI cR cM : ClassId} {g : Nat → Nat} {L L1 : List Nat} {S S1 : Sg} (hX : EXT L S L1 S1) {a : Nat} (q : Nat × Nat × Nat) (e : va_E) (h : okE jn cI cR cM g L S a q e) : okE jn cI cR cM g L1 S1 a q e := by
  by_cases hq : q.1 ∈ ([0, 2, 15, 20, 21, 22, 23] : List Nat)
  · exact okE_in hX q e hq h
  · exact okE_out q e hq h
theorem swP {D : va_G} {cl : List vw_C} {X Y : va_W} {H : Heap} (hP : va_P D cl (X ++ Y) H) : va_P D cl (Y ++ X) H := (show va_P D cl (([] ++ X) ++ Y) H from hP).swap
theorem swD {A : Nat → Prop} {X Y : va_W} (hD : va_D A (X ++ Y)) : va_D A (Y ++ X) := (show va_D A (([] ++ X) ++ Y) from hD).swap
theorem absorb {D : va_G} {A : Nat → Prop} {L : List Nat} {f : Nat → va_E} {H : Heap} {o q : Nat} {eo eq : va_E} (hP : va_P D vwCl ([(o, eo), (q, eq)] ++ va_pl L f) H) (hD : va_D A ([(o, eo), (q, eq)] ++ va_pl L f)) : ∃ f1 : Nat → va_E, f1 o = eo ∧ f1 q = eq ∧ (∀ b, b ∈ L → f1 b = f b) ∧ o ∉ L ∧ q ∉ L ∧ o ≠ q ∧ va_P D vwCl (va_pl (L ++ [o, q]) f1) H ∧ va_D A (va_pl (L ++ [o, q]) f1) := by
  have hoq : o ≠ q := fun e => by have := hD.1 0 1 (o, eo) (q, eq) rfl rfl e; omega
  have hm : ∀ b, b ∈ L → ∃ k, ([(o, eo), (q, eq)] ++ va_pl L f)[k + 2]? = some (b, f b) := fun b hb => by
    obtain ⟨k, hk⟩ := pl_at (f := f) hb
    exact ⟨k, by rw [List.getElem?_append_right (by simp)]; simpa using hk⟩
  have ho : o ∉ L := fun h => by
    obtain ⟨k, hk⟩ := hm o h
    have := hD.1 0 (k + 2) (o, eo) (o, f o) rfl hk rfl
    omega
  have hq : q ∉ L := fun h => by
    obtain ⟨k, hk⟩ := hm q h
    have := hD.1 1 (k + 2) (q, eq) (q, f q) rfl hk rfl
    omega
  have e1 : va_pl L f ++ [(o, eo), (q, eq)] = va_pl (L ++ [o, q]) (va_up (va_up f o eo) q eq) := by
    have h1 : va_pl L f ++ [(o, eo)] = va_pl (L ++ [o]) (va_up f o eo) := va_pl_push ho
    have h2 : va_pl (L ++ [o]) (va_up f o eo) ++ [(q, eq)] = va_pl ((L ++ [o]) ++ [q]) (va_up (va_up f o eo) q eq) := va_pl_push (fun h => by
      rcases List.mem_append.mp h with h | h
      · exact hq h
      · exact hoq (List.mem_singleton.mp h).symm)
    rw [← h1, List.append_assoc] at h2
    rw [List.append_assoc] at h2
    exact h2
  refine ⟨va_up (va_up f o eo) q eq, by rw [va_up_ne _ _ hoq, va_up_self], va_up_self _ _ _, fun b hb => ?_, ho, hq, hoq, ?_, ?_⟩
  · rw [va_up_ne _ _ (fun e => hq (by rw [← e]; exact hb)), va_up_ne _ _ (fun e => ho (by rw [← e]; exact hb))]
  · rw [← e1]; exact swP hP
  · rw [← e1]; exact swD hD
theorem IN_ext {jn : Nat} {cI cR cM : ClassId} {g : Nat → Nat} {L L1 : List Nat} {S S1 : Sg} {f f1 : Nat → va_E} (hI : IN jn cI cR cM g L S f) (hX : EXT L S L1 S1) (hf : ∀ b, b ∈ L → f1 b = f b) (hn : ∀ a, a ∈ L1 → a ∉ L → okE jn cI cR cM g L1 S1 a (S1 a) (f1 a)) : IN jn cI cR cM g L1 S1 f1 := fun a ha => by
  by_cases h : a ∈ L
  · rw [hf a h, (hX a h).2]
    exact okE_mono hX _ _ (hI a h)
  · exact hn a ha h
theorem newRow {jn : Nat} {cI cR cM : ClassId} {g : Nat → Nat} {L : List Nat} {S : Sg} {f f1 : Nat → va_E} {o q n : Nat} {c : Nat → Int32} (hI : IN jn cI cR cM g L S f) (ho : o ∉ L) (hq : q ∉ L) (hoq : o ≠ q) (hf : ∀ b, b ∈ L → f1 b = f b) (fo : f1 o = .inr (5, [.int (nI jn), .int (nI (2 * jn)), .ref q, .int 0])) (fq : f1 q = .inl (cI, n, .inl c)) (hn : n ≤ 144) (hc : cOK jn n c) : ∃ S1 : Sg, EXT L S (L ++ [o, q]) S1 ∧ S1 o = (0, q, n) ∧ S1 q = (1, n, o) ∧ IN jn cI cR cM g (L ++ [o, q]) S1 f1 := by
  refine ⟨fun a => if a = o then (0, q, n) else if a = q then (1, n, o) else S a, fun a ha => ⟨List.mem_append_left _ ha, ?_⟩, if_pos rfl, ?_, ?_⟩
  · show (if a = o then (0, q, n) else if a = q then (1, n, o) else S a) = S a
    rw [if_neg (fun e => ho (by rw [← e]; exact ha)), if_neg (fun e => hq (by rw [← e]; exact ha))]
  · show (if q = o then (0, q, n) else if q = q then (1, n, o) else S q) = (1, n, o)
    rw [if_neg (Ne.symm hoq), if_pos rfl]
  · refine IN_ext hI (fun a ha => ⟨List.mem_append_left _ ha, ?_⟩) hf (fun a ha hna => ?_)
    · show (if a = o then (0, q, n) else if a = q then (1, n, o) else S a) = S a
      rw [if_neg (fun e => ho (by rw [← e]; exact ha)), if_neg (fun e => hq (by rw [← e]; exact ha))]
    · rcases List.mem_append.mp ha with h | h
      · exact absurd h hna
      · have h : a = o ∨ a = q := by simpa using h
        rcases h with h | h
        · subst h
          show okE jn cI cR cM g _ _ a (if a = a then (0, q, n) else _) (f1 a)
          rw [if_pos rfl, fo]
          refine mk_0 (by decide) (by rw [show (0 : Int32).toInt = 0 from rfl, Int.zero_mul]; omega) hn (List.mem_append_right _ (by simp)) ?_
          show (if q = a then (0, q, n) else if q = q then (1, n, a) else S q) = (1, n, a)
          rw [if_neg (Ne.symm hoq), if_pos rfl]
        · subst h
          show okE jn cI cR cM g _ _ a (if a = o then (0, a, n) else if a = a then (1, n, o) else _) (f1 a)
          rw [if_neg (Ne.symm hoq), if_pos rfl, fq]
          exact mk_1 hc
theorem newMk {jn : Nat} {cI cR cM : ClassId} {g : Nat → Nat} {L : List Nat} {S : Sg} {f f1 : Nat → va_E} {o q : Nat} {c : Nat → Int32} (hI : IN jn cI cR cM g L S f) (ho : o ∉ L) (hq : q ∉ L) (hoq : o ≠ q) (hf : ∀ b, b ∈ L → f1 b = f b) (fo : f1 o = .inr (3, [.ref q, .int 0])) (fq : f1 q = .inl (cI, 7, .inl c)) : ∃ S1 : Sg, EXT L S (L ++ [o, q]) S1 ∧ S1 o = (2, q, 0) ∧ S1 q = (3, 0, o) ∧ IN jn cI cR cM g (L ++ [o, q]) S1 f1 := by
  refine ⟨fun a => if a = o then (2, q, 0) else if a = q then (3, 0, o) else S a, fun a ha => ⟨List.mem_append_left _ ha, ?_⟩, if_pos rfl, ?_, ?_⟩
  · show (if a = o then (2, q, 0) else if a = q then (3, 0, o) else S a) = S a
    rw [if_neg (fun e => ho (by rw [← e]; exact ha)), if_neg (fun e => hq (by rw [← e]; exact ha))]
  · show (if q = o then (2, q, 0) else if q = q then (3, 0, o) else S q) = (3, 0, o)
    rw [if_neg (Ne.symm hoq), if_pos rfl]
  · refine IN_ext hI (fun a ha => ⟨List.mem_append_left _ ha, ?_⟩) hf (fun a ha hna => ?_)
    · show (if a = o then (2, q, 0) else if a = q then (3, 0, o) else S a) = S a
      rw [if_neg (fun e => ho (by rw [← e]; exact ha)), if_neg (fun e => hq (by rw [← e]; exact ha))]
    · rcases List.mem_append.mp ha with h | h
      · exact absurd h hna
      · have h : a = o ∨ a = q := by simpa using h
        rcases h with h | h
        · subst h
          show okE jn cI cR cM g _ _ a (if a = a then (2, q, 0) else _) (f1 a)
          rw [if_pos rfl, fo]
          refine mk_2 (by decide) (by decide) (List.mem_append_right _ (by simp)) ?_
          show (if q = a then (2, q, 0) else if q = q then (3, 0, a) else S q) = (3, 0, a)
          rw [if_neg (Ne.symm hoq), if_pos rfl]
        · subst h
          show okE jn cI cR cM g _ _ a (if a = o then (2, a, 0) else if a = a then (3, 0, o) else _) (f1 a)
          rw [if_neg (Ne.symm hoq), if_pos rfl, fq]
          exact mk_3
section HLPW
variable {p : Program} {l : Launch} {e : Env} {R : Room} {s : State} {m : MethodId} {args : Array Value} {below : List Frame} {meth : Method} {c : Code} {H : Heap} {locs : List Loc} {cells slots : Nat} {Q : State → Prop}
variable {cc : ByteArray} {pc : Nat} {ls : Array Slot} {rest st0 : List Value} {D : va_G} {cl : List vw_C} {A : Nat → Prop} {a : Nat} {tys : List (ClassId × FieldType)} {ws wc wr : va_W} {H0 : Heap} {av : Array Value} {mc ms : Nat}
variable {L : List Nat} {f : Nat → va_E}

/-- a constructor's call: its world is the new object -/
theorem call_new {S : Type} {w1 : S → va_W} {post : S → Prop} {eo : va_E} (hr : va_Run p l e R s m args below meth c H locs cells slots mc ms (F0 m pc ls st0) rest (QG (fun _ => none) w1 post D (va_A [(a, eo)] H.size) av) (va_A [(a, eo)] H.size)) (hP : va_P D vwCl ([(a, eo)] ++ va_pl L f) H) (hD : va_D A ([(a, eo)] ++ va_pl L f)) (hS : va_S A H0 H locs) (hA : ∀ q, H0.size ≤ q → A q)
    (kk : ∀ (u : S) (H1 : Heap) (locs1 : List Loc), post u → va_P D vwCl (w1 u ++ va_pl L f) H1 → va_D A (w1 u ++ va_pl L f) → va_S A H0 H1 locs1 → W p l e R s m args below meth c H1 locs1 (cells + mc) (slots + ms) Q (F0 m (pc + 3) ls rest)) : W p l e R s m args below meth c H locs cells slots Q (F0 m pc ls st0) := by
  have hF : ∀ q, va_A [(a, eo)] H.size q → A q := fun q h => by
    rcases h with ⟨k, e, h⟩ | h
    · have hk : k < 1 := (List.getElem?_eq_some_iff.mp h).1
      rw [show k = 0 by omega] at h
      cases h
      exact hD.2 0 (a, eo) rfl
    · exact hA q (Nat.le_trans hS.1 h)
  intro T hT X
  obtain ⟨v', st₀, t, T', L9, h0, X', hL, e1, e2, ⟨⟨u, hv, hp, hP1, hD1⟩, hz, hk⟩, st⟩ := hr T hT X
  cases hv
  rw [h0] at hz hk
  rw [← e1] at hP1
  have hk2 : ∀ q : Nat, q < H.size → ¬ va_A [(a, eo)] H.size q → T'.heap[q]? = H[q]? := fun q h h2 => by rw [e1]; exact hk q h h2
  have hz2 : H.size ≤ T'.heap.size := by rw [e1]; exact hz
  obtain ⟨hP2, hD2⟩ := va_joinQ (X := [(a, eo)]) (wr := []) (pl := va_pl L f) hP hD [0] [] rfl rfl (by decide) (by decide) hk2 hF hP1 hD1
  obtain ⟨t2, a1, b1⟩ := kk u T'.heap (locs ++ L9) hp hP2 hD2
    ⟨Nat.le_trans hS.1 hz2, fun q h1 h2 => by rw [hk2 q (Nat.lt_of_lt_of_le h1 hS.1) (fun z => h2 (hF q z))]; exact hS.2.1 q h1 h2, fun q hq => by
      rcases List.mem_append.mp hq with h | h
      · exact hS.2.2 q h
      · exact hF _ (hL q h)⟩ T' rfl X'
  exact ⟨t2, st t2 a1, b1⟩
theorem head_P {o : Nat} {eo : va_E} {w9 : va_W} (hP : va_P D cl ([(o, eo)] ++ w9) H) : va_P D cl [(o, eo)] H := fun k q hq => by
  have hk : k < 1 := (List.getElem?_eq_some_iff.mp hq).1
  rw [show k = 0 by omega] at hq
  exact hP 0 q hq
theorem tail_P {o : Nat} {eo : va_E} (hP : va_P D cl ([(o, eo)] ++ va_pl L f) H) : va_P D cl (va_pl L f) H := fun k q hq => hP (k + 1) q hq
theorem tail_D {o : Nat} {eo : va_E} (hD : va_D A ([(o, eo)] ++ va_pl L f)) : va_D A (va_pl L f) := ⟨fun i j p q hi hj e => by have := hD.1 (i + 1) (j + 1) p q hi hj e; omega, fun k q hq => hD.2 (k + 1) q hq⟩
theorem g_aret {S : Type} {ans : S → Option Value} {w1 : S → va_W} {post : S → Prop} {v : Nat} {C : String} (u : S) (hx : p.tables.exec = Jvm.exec) (hb : c.code = cc) (hr : meth.sig.returnType = some (.object C)) (hlocks : meth.locks = false) (hS : va_S A s.heap H locs) (ha : ans u = some (.ref v)) (hp : post u) (hP : va_P D vwCl (w1 u) H) (hD : va_D A (w1 u)) (hQ : Q = MQ below (QG ans w1 post D A) args s mc ms A) (hc : cells ≤ mc) (hs : slots ≤ ms) (hdg : decode cc pc = .ok (.areturn, 1)) : W p l e R s m args below meth c H locs cells slots Q (F0 m pc ls [.ref v]) := by
  rw [hQ]
  refine W.widen hc hs ?_
  exact W.aret hx hb hr (Or.inl ⟨_, rfl⟩) (Or.inr ⟨v, rfl⟩) (fun t ht hW => ⟨⟨u, by rw [ha], hp, by rw [ht]; exact hP, hD⟩, hS.F ht⟩) hS.2.2 hdg hlocks
end HLPW
