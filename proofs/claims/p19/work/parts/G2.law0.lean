theorem dL_cell_0 : decode cL_cell 0 = .ok (.iload_n 1, 1) := by decide +kernel
theorem dL_cell_1 : decode cL_cell 1 = .ok (.aload_n 0, 1) := by decide +kernel
theorem dL_cell_2 : decode cL_cell 2 = .ok (.arraylength, 1) := by decide +kernel
theorem dL_cell_3 : decode cL_cell 3 = .ok (.if_icmp .ge 9, 3) := by decide +kernel
theorem dL_cell_6 : decode cL_cell 6 = .ok (.aload_n 0, 1) := by decide +kernel
theorem dL_cell_7 : decode cL_cell 7 = .ok (.iload_n 1, 1) := by decide +kernel
theorem dL_cell_8 : decode cL_cell 8 = .ok (.iaload, 1) := by decide +kernel
theorem dL_cell_9 : decode cL_cell 9 = .ok (.goto 4, 3) := by decide +kernel
theorem dL_cell_12 : decode cL_cell 12 = .ok (.iconst 0, 1) := by decide +kernel
theorem dL_cell_13 : decode cL_cell 13 = .ok (.ireturn, 1) := by decide +kernel
/-! THE CLAIM OUT OF ONE WALK OF THE LAW'S BODY. Your part is whole_start (and what it stands on); all else here is the same for every law, but numbers. -/
def R_law : String := "JugglingHallLaw"
def lw_P (b : Addr) (xs : List Int32) (args : Array Value) (s : State) : Prop := args = #[.ref b] ∧ s.IntsAt b xs ∧ xs.length ≤ 3073 ∧ (Jvm.Cond.and given_1 narrow_1).before args s = true
def lw_Q (_ : Array Value) (s : State) (o : Outcome) (t : State) : Prop := o = .returned (some (.int 1)) ∧ Framed s o t [] 600000 7302250
def lw_Z (below : List Frame) (a : Array Value) (s : State) : State → Prop := fun t => ∃ o, t.status = .running ∧ Ended t below o ∧ lw_Q a s o t
/-- the law's own end, with 1 on the stack, nothing written that was there before, its room as the claim has it -/
theorem lw_ret {p : Program} {l : Launch} {e : Env} {s : State} {m : MethodId} {below : List Frame} {meth : Method} {c : Code} {b : Nat} (hx : p.tables.exec = Jvm.exec) (hb : c.code = code) (hr : meth.sig.returnType = ret) (hlocks : meth.locks = false) {pc : Nat} {H : Heap} {ls : Array Slot} (hdg : decode code pc = .ok (.ireturn, 1)) : W p l e room_1 s m #[Value.ref b] below meth c H [] 600000 7302250 (lw_Z below #[Value.ref b] s) (F0 m pc ls [.int 1]) := by
  intro T hT X
  obtain ⟨fs, hret, hrun, hended, hW, hframe⟩ := X.leave (v := some (.int 1)) (hlocks := hlocks) (fun h => by rw [hr] at h; cases h)
  have hmeth' : T.vm.method? m = some meth := X.method'
  refine ⟨T.setFrames fs, ?_, .returned (some (.int 1)), hrun, hended, rfl, ⟨_, rfl⟩, hW, hframe⟩
  jvm_step X.here [X.here.top, hx, hb, hdg, hmeth', hr, ret, narrow_b1]
  (try refine ⟨rfl, ?_⟩); (try refine ⟨rfl, ?_⟩)
  first | (intro acts; rw [hret _ acts rfl rfl rfl]) | rw [hret _ _ rfl rfl rfl]
  exact Steps.refl _
/-- what holds at the law's entry: the machine, the code, the tables' words (any of lw_tbl by 'hts w (by decide +kernel)'), the script of L ints xs at the cell b, what the Statement gives of the start (any of its parts by flat_of_before) -/
def lw_At (p : Program) (s : State) (m : MethodId) (meth : Method) (c : Code) (b L : Nat) (xs : Nat → Int32) : Prop :=
  p.tables.exec = Jvm.exec ∧ c.code = code ∧ meth.sig.returnType = ret ∧ c.maxLocals = 4 ∧ s.vm.findClass R_law = some m.cls ∧ (∀ w ∈ lw_tbl, w.before #[Value.ref b] s = true) ∧ va_X b L xs s s.heap ∧ b < s.heap.size ∧ meth.locks = false ∧ (Jvm.Cond.and given_1 narrow_1).before #[Value.ref b] s = true
set_option maxRecDepth 20000 in
theorem nest_in : ∀ w ∈ nestW, w ∈ lw_tbl := by decide +kernel
theorem law_KK {s : State} {b : Nat} (hts : ∀ w ∈ lw_tbl, w.before #[Value.ref b] s = true) : ∃ (D : va_G) (cI cR cM : ClassId), KK D cI cR cM s := by
  obtain ⟨c0, iS0, hKn0⟩ := u_known (C := RX0) (T := TX0) (N := 4) (n := 4) hts inX0 (hts (.instantiable RX0 4) (by decide +kernel))
  obtain ⟨c1, iS1, hKn1⟩ := u_known (C := RX1) (T := TX1) (N := 8) (n := 8) hts inX1 (hts (.instantiable RX1 8) (by decide +kernel))
  obtain ⟨c2, iS2, hKn2⟩ := u_known (C := RX2) (T := TX2) (N := 2) (n := 2) hts inX2 (hts (.instantiable RX2 2) (by decide +kernel))
  obtain ⟨c3, iS3, hKn3⟩ := u_known (C := RX3) (T := TX3) (N := 2) (n := 2) hts inX3 (hts (.instantiable RX3 2) (by decide +kernel))
  obtain ⟨c4, iS4, hKn4⟩ := u_known (C := RX4) (T := TX4) (N := 11) (n := 11) hts inX4 (hts (.instantiable RX4 11) (by decide +kernel))
  obtain ⟨c5, iS5, hKn5⟩ := u_known (C := RX5) (T := TX5) (N := 4) (n := 4) hts inX5 (hts (.instantiable RX5 4) (by decide +kernel))
  obtain ⟨c6, iS6, hKn6⟩ := u_known (C := RX6) (T := TX6) (N := 4) (n := 4) hts inX6 (hts (.instantiable RX6 4) (by decide +kernel))
  obtain ⟨c7, iS7, hKn7⟩ := u_known (C := RX7) (T := TX7) (N := 2) (n := 2) hts inX7 (hts (.instantiable RX7 2) (by decide +kernel))
  obtain ⟨c8, iS8, hKn8⟩ := u_known (C := RX8) (T := TX8) (N := 10) (n := 10) hts inX8 (hts (.instantiable RX8 10) (by decide +kernel))
  obtain ⟨c9, iS9, hKn9⟩ := u_known (C := RX9) (T := TX9) (N := 4) (n := 4) hts inX9 (hts (.instantiable RX9 4) (by decide +kernel))
  obtain ⟨c10, iS10, hKn10⟩ := u_known (C := RX10) (T := TX10) (N := 8) (n := 8) hts inX10 (hts (.instantiable RX10 8) (by decide +kernel))
  obtain ⟨c11, iS11, hKn11⟩ := u_known (C := RX11) (T := TX11) (N := 47) (n := 47) hts inX11 (hts (.instantiable RX11 47) (by decide +kernel))
  obtain ⟨cI, kI, compI, f1, f2, f3⟩ := Cond.arrayClass_spec (args := #[Value.ref b]) (first := s) (o := none) (s := s) (idx := []) (hts (.arrayClass .int) (by decide +kernel))
  obtain ⟨compR, cR, kR, r1, -, r2, r3, r4⟩ := Cond.arrayOver_spec (args := #[Value.ref b]) (first := s) (o := none) (s := s) (idx := []) (hts (.arrayOver (.object "JugglingHall$Row")) (by decide +kernel))
  obtain ⟨compM, cM, kM, m1, -, m2, m3, m4⟩ := Cond.arrayOver_spec (args := #[Value.ref b]) (first := s) (o := none) (s := s) (idx := []) (hts (.arrayOver (.object "JugglingHall$Marks")) (by decide +kernel))
  refine ⟨(fun k => if k = 0 then c0 else if k = 1 then c1 else if k = 2 then c2 else if k = 3 then c3 else if k = 4 then c4 else if k = 5 then c5 else if k = 6 then c6 else if k = 7 then c7 else if k = 8 then c8 else if k = 9 then c9 else if k = 10 then c10 else c11, fun k => if k = 0 then iS0 else if k = 1 then iS1 else if k = 2 then iS2 else if k = 3 then iS3 else if k = 4 then iS4 else if k = 5 then iS5 else if k = 6 then iS6 else if k = 7 then iS7 else if k = 8 then iS8 else if k = 9 then iS9 else if k = 10 then iS10 else iS11), cI, cR, cM, ⟨fun k q hq => ?_, fun k q hq => ?_⟩, fun w hw => va_Nw.of (nw_tab (nestW_ok w hw)) (hts w (nest_in w hw)), va_AO.of (hts (.arrayOver (.object "JugglingHall$Row")) (by decide +kernel)), va_AO.of (hts (.arrayOver (.object "JugglingHall$Marks")) (by decide +kernel))⟩
  · match k, hq with
    | 0, hq => cases hq; exact hKn0
    | 1, hq => cases hq; exact hKn1
    | 2, hq => cases hq; exact hKn2
    | 3, hq => cases hq; exact hKn3
    | 4, hq => cases hq; exact hKn4
    | 5, hq => cases hq; exact hKn5
    | 6, hq => cases hq; exact hKn6
    | 7, hq => cases hq; exact hKn7
    | 8, hq => cases hq; exact hKn8
    | 9, hq => cases hq; exact hKn9
    | 10, hq => cases hq; exact hKn10
    | 11, hq => cases hq; exact hKn11
    | k + 12, hq => simp [vwCl] at hq
  · match k, hq with
    | 0, hq => cases hq; exact ⟨fun N z => ⟨(fun k h => by cases h), kI, f2, compI, f3⟩, f1⟩
    | 1, hq => cases hq; exact ⟨fun N z => ⟨(fun k h => by cases h), kR, r2, compR, r3⟩, kR, compR, r2, r3, r1, r4⟩
    | 2, hq => cases hq; exact ⟨fun N z => ⟨(fun k h => by cases h), kM, m2, compM, m3⟩, kM, compM, m2, m3, m1, m4⟩
    | k + 3, hq => simp [tysJ] at hq
def Pcell (b L : Nat) (xs : Nat → Int32) (sz : Nat) : Array Value → State → Prop := va_Pc [.ref b, .int 0] (fun U => U.heap.size = sz ∧ va_X b L xs U U.heap ∧ b < sz)
theorem Pcell_blind {b L : Nat} {xs : Nat → Int32} {sz : Nat} : FrameBlind (Pcell b L xs sz) := fun a U g mk q => ⟨q.1, q.2.1, va_X.moved (u := U) (U := U.calling g mk a) (Vm.Alike.refl U.vm) q.2.2.1, q.2.2.2⟩
theorem pre_cell {b L : Nat} {xs : Nat → Int32} {s : State} {H : Heap} {A : Nat → Prop} {locs : List Loc} (hX : va_X b L xs s s.heap) (hbl : b < s.heap.size) (hbA : ¬ A b) (hS : va_S A s.heap H locs) : PreS s H (Pcell b L xs H.size) [.ref b, .int 0] :=
  ⟨Pcell_blind, fun U hU hW => ⟨rfl, by rw [hU], by rw [hU]; exact va_X.moved hW.alike (hX.kept (hS.2.1 b hbl hbA)), Nat.lt_of_lt_of_le hbl hS.1⟩⟩
set_option maxRecDepth 100000 in
set_option maxHeartbeats 4000000 in
theorem c_cell (l : Launch) {L : Nat} (hL : L ≤ 3073) (b : Nat) (xs : Nat → Int32) (sz : Nat) : Met l yL_cell wsL_cell ({ frames := 0, cells := 0, slots := 0, locals := 0 }) (Pcell b L xs sz) (QE (some (.int (if 0 < L then xs 0 else 0))) sz) 0 0 (va_A [] sz) := by
  refine Met.ofW (cc := cL_cell) (maxL := 2) (ret := some .int) (by decide) rfl ?_
  intro p e s m args below meth c s₁ B hml hv
  obtain ⟨rfl, hsz, hX, hbl⟩ := hv
  subst hsz
  have hx := B.exec
  have hb := B.bytes
  have hr := B.returns
  have hlocks := B.notSynchronized
  have hS : va_S (va_A [] s.heap.size) s.heap s.heap [] := va_S.rf
  have hbA : ¬ va_A [] s.heap.size b := by
    rintro (⟨k, e, h⟩ | h)
    · simp at h
    · omega
  have hl := lv_entry [.ref b, .int 0] (n := 2) (Nat.le_of_ble_eq_true rfl)
  rw [lg_entry_eq]
  generalize (lg_sl ([.ref b, .int 0]) ++ List.replicate (2 - (lg_sl ([.ref b, .int 0])).length) Slot.unset).toArray = ls at hl ⊢
  have hl : lv_has ls 2 [(0, .ref b), (1, .int 0)] := hl
  refine lv_iload_n hx hb dL_cell_0 rfl (lv_at hl 1 rfl) ?_
  refine lv_aload_n hx hb dL_cell_1 rfl (lv_at hl 0 rfl) ?_
  refine va_slen hx hb hX hbl hbA hS dL_cell_2 ?_
  refine lv_eqi (y := nI L) rfl ?_
  refine lv_icmp_ge (tgt := 12) hx hb dL_cell_3 (by decide) (fun c3 => ?_) (fun c3 => ?_)
  · have h0 : ¬ 0 < L := fun q => absurd c3 (nI_nle q (by omega))
    refine lv_iconst (v := 0) hx hb dL_cell_12 (by decide) ?_
    exact ro_iret hx hb hr hlocks hS ((if_neg h0).symm) rfl dL_cell_13
  · have h0 : 0 < L := Nat.pos_of_ne_zero (fun q => c3 (by rw [q]; decide))
    refine lv_aload_n hx hb dL_cell_6 rfl (lv_at hl 0 rfl) ?_
    refine lv_iload_n hx hb dL_cell_7 rfl (lv_at hl 1 rfl) ?_
    refine va_sld hx hb hX hbl hbA hS (vp_in_nI (n := 0) h0 (by omega)) dL_cell_8 ?_
    refine lv_eqi (y := xs 0) rfl ?_
    refine lv_goto (tgt := 13) hx hb dL_cell_9 (by decide) ?_
    exact ro_iret hx hb hr hlocks hS ((if_pos h0).symm) rfl dL_cell_13
/-- what holds all along the law's body -/
def LC (p : Program) (s : State) (m : MethodId) (meth : Method) (c : Code) (b L : Nat) (xs : Nat → Int32) (A : Nat → Prop) (D : va_G) (cI cR cM : ClassId) : Prop := p.tables.exec = Jvm.exec ∧ c.code = code ∧ meth.sig.returnType = ret ∧ c.maxLocals = 4 ∧ s.vm.findClass RL = some m.cls ∧ (∀ w ∈ wsL_law, w.before #[Value.ref b] s = true) ∧ va_X b L xs s s.heap ∧ b < s.heap.size ∧ meth.locks = false ∧ KK D cI cR cM s ∧ (∀ q, s.heap.size ≤ q → A q) ∧ (∀ q, A q → s.heap.size ≤ q)
/-- the class's texts stand at the law's start -/
def tmS (i : Nat) : Term := .string RX8 (idxS.getD i 0)
set_option maxRecDepth 100000 in
theorem st_1 : ∀ i, i < 8 → (Cond.exactly (tmS i) "java/lang/String") ∈ flatC (Jvm.Cond.and given_1 narrow_1) := by decide +kernel
set_option maxRecDepth 100000 in
theorem st_2 : ∀ i, i < 8 → (Cond.eq (.field (tmS i) "java/lang/String" "coder" "B") (.int 0)) ∈ flatC (Jvm.Cond.and given_1 narrow_1) := by decide +kernel
set_option maxRecDepth 100000 in
theorem st_3 : ∀ i, i < 8 → (Cond.arrayOf (.field (tmS i) "java/lang/String" "value" "[B") .byte) ∈ flatC (Jvm.Cond.and given_1 narrow_1) := by decide +kernel
set_option maxRecDepth 100000 in
theorem st_4 : ∀ i, i < 8 → (Cond.eq (.length (.field (tmS i) "java/lang/String" "value" "[B")) (.int (Int32.ofNat (lenS.getD i 0)))) ∈ flatC (Jvm.Cond.and given_1 narrow_1) := by decide +kernel
set_option maxRecDepth 100000 in
theorem st_5 : ∀ i, i < 8 → ∀ j, j < lenS.getD i 0 → (Cond.eq (.elem (.field (tmS i) "java/lang/String" "value" "[B") (.int (Int32.ofNat j))) (.int ((bytS.getD i []).getD j 0))) ∈ flatC (Jvm.Cond.and given_1 narrow_1) := by decide +kernel
set_option maxRecDepth 100000 in
theorem st_6 : ∀ i, i < 8 → ∀ j, j < 8 → i ≠ j → (Cond.not (Cond.eq (tmS i) (tmS j))) ∈ flatC (Jvm.Cond.and given_1 narrow_1) ∨ (Cond.not (Cond.eq (tmS j) (tmS i))) ∈ flatC (Jvm.Cond.and given_1 narrow_1) := by decide +kernel
set_option maxRecDepth 100000 in
theorem st_7 : ∀ i, i < 8 → (Cond.stringRef RX8 (idxS.getD i 0) (txtS.getD i "")) ∈ lw_tbl := by decide +kernel
set_option maxRecDepth 100000 in
theorem law_ST {s : State} {b : Nat} (hgv : (Jvm.Cond.and given_1 narrow_1).before #[Value.ref b] s = true) (hts : ∀ w ∈ lw_tbl, w.before #[Value.ref b] s = true) : ∃ adK adV : Nat → Nat, ST adK adV s.heap.size s := by
  have hs := flat_of_before _ hgv
  have hA : ∀ a : Nat, a < s.heap.size → ¬ (fun q => s.heap.size ≤ q) a := fun a h h2 => absurd h (Nat.not_lt.mpr h2)
  obtain ⟨adK, adV, h1, h2⟩ := vk_Sof (args := #[Value.ref b]) (s := s) (N := 8) (tm := tmS) (len := lenS) (byt := bytS) (A := fun q => s.heap.size ≤ q) (by decide +kernel) (fun i hi => hs _ (st_1 i hi)) (fun i hi => hs _ (st_2 i hi)) (fun i hi => hs _ (st_3 i hi)) (fun i hi => hs _ (st_4 i hi)) (fun i hi j hj => hs _ (st_5 i hi j hj)) (fun i j hi hj hn => (st_6 i hi j hj hn).imp (fun z => hs _ z) (fun z => hs _ z)) hA
  refine ⟨adK, adV, Nat.le_refl _, h1, fun i hi => vk_R.of (hts _ (st_7 i hi)) (h2 i hi), va_Zof (hts _ (by decide +kernel)) (hts _ (by decide +kernel)) (va_eqt (hs (Cond.eq (.static "java/lang/String" "COMPACT_STRINGS" "Z") (.int 1)) (by decide +kernel))) hA, va_Zqof (hts _ (by decide +kernel)) (hts _ (by decide +kernel)) (hs (Cond.isRef (.static "jdk/internal/util/Preconditions" "SIOOBE_FORMATTER" "Ljava/util/function/BiFunction;")) (by decide +kernel)) hA⟩
/-- the class's state, and the reference's beside it -/
def CS (jn : Nat) (cI cR cM : ClassId) (D : va_G) (g : Nat → Nat) (A : Nat → Prop) (L : List Nat) (S : Sg) (f : Nat → va_E) (H : Heap) : Prop := SG g L S ∧ IN jn cI cR cM g L S f ∧ (jn ≠ 1 → TK g cI f) ∧ va_P D vwCl (va_pl L f) H ∧ va_D A (va_pl L f)
def AP (L : List Nat) (wm : va_W) : Prop := ∀ (k : Nat) (q : Nat × va_E), wm[k]? = some q → q.1 ∉ L
theorem hall_at {jn : Nat} {cI cR cM : ClassId} {g : Nat → Nat} {L : List Nat} {S : Sg} {f : Nat → va_E} (hG : SG g L S) (hI : IN jn cI cR cM g L S f) : f (g 10) = .inr (10, [.int (nI jn), .ref (g 11), .ref (g 12), .ref (g 13), .ref (g 15), .ref (g 16), .ref (g 17), .ref (g 18)]) := by
  have h := hI _ (gm_10 hG)
  rw [gs_10 hG] at h
  exact h
theorem TK_tags {g : Nat → Nat} {cI : ClassId} {L T : List Nat} {S : Sg} {f f1 : Nat → va_E} (hG : SG g L S) (hF : FR S T f f1) (h14 : 14 ∉ T) (h31 : 31 ∉ T) (h32 : 32 ∉ T) (h : TK g cI f) : TK g cI f1 :=
  TK_eq h (hF _ (by rw [gs_14 hG]; exact h14)) (hF _ (by rw [gs_31 hG]; exact h31)) (hF _ (by rw [gs_32 hG]; exact h32))
theorem TK_tagx {g : Nat → Nat} {cI : ClassId} {L T : List Nat} {S : Sg} {f f1 : Nat → va_E} (hG : SG g L S) (hF : FRX L S T f f1) (h14 : 14 ∉ T) (h31 : 31 ∉ T) (h32 : 32 ∉ T) (h : TK g cI f) : TK g cI f1 :=
  TK_eq h (hF _ (gm_14 hG) (by rw [gs_14 hG]; exact h14)) (hF _ (gm_31 hG) (by rw [gs_31 hG]; exact h31)) (hF _ (gm_32 hG) (by rw [gs_32 hG]; exact h32))
theorem P_left {D : va_G} {cl : List vw_C} {a b : va_W} {H : Heap} (h : va_P D cl (a ++ b) H) : va_P D cl a H := fun k q hq => h k q (by
  have hlt : k < a.length := (List.getElem?_eq_some_iff.mp hq).1
  rw [List.getElem?_append_left hlt]; exact hq)
theorem P_right {D : va_G} {cl : List vw_C} {a b : va_W} {H : Heap} (h : va_P D cl (a ++ b) H) : va_P D cl b H := fun k q hq => h (a.length + k) q (by
  rw [List.getElem?_append_right (Nat.le_add_right _ _), Nat.add_sub_cancel_left]; exact hq)
theorem pl_memq {L : List Nat} {f : Nat → va_E} {k : Nat} {q : Nat × va_E} (h : (va_pl L f)[k]? = some q) : q.1 ∈ L := pl_mem (q := q.1) (e := q.2) h
/-- some of the class's cells changed: the whole again -/
theorem pl_join {D : va_G} {L : List Nat} {f : Nat → va_E} {w1 wc : va_W} {H H1 : Heap} {A A9 : Nat → Prop} (hP : va_P D vwCl (va_pl L f) H) (hD : va_D A (va_pl L f)) (hw : w1.map Prod.fst = wc.map Prod.fst) (hP1 : va_P D vwCl w1 H1) (hD1 : va_D A9 w1) (hk2 : ∀ q : Nat, q < H.size → ¬ va_A wc H.size q → H1[q]? = H[q]?) : ∃ f1 : Nat → va_E, (∀ q ∈ w1, f1 q.1 = q.2) ∧ (∀ b, b ∉ wc.map Prod.fst → f1 b = f b) ∧ va_P D vwCl (va_pl L f1) H1 ∧ va_D A (va_pl L f1) := by
  have hfx : ∃ f1 : Nat → va_E, (∀ q ∈ w1, f1 q.1 = q.2) ∧ ∀ b, b ∉ wc.map Prod.fst → f1 b = f b := by
    refine ⟨fun b => match w1.find? (fun q => decide (q.1 = b)) with | some q => q.2 | none => f b, fun q hq => ?_, fun b hb => ?_⟩
    · cases hx : w1.find? (fun q9 => decide (q9.1 = q.1)) with
      | none =>
        have := List.find?_eq_none.mp hx q hq
        simp at this
      | some r =>
        have h1 := List.mem_of_find?_eq_some hx
        have h2 : r.1 = q.1 := by simpa using List.find?_some hx
        obtain ⟨i, hi⟩ := List.getElem?_of_mem h1
        obtain ⟨j, hj⟩ := List.getElem?_of_mem hq
        have h3 := hD1.1 i j r q hi hj h2
        rw [h3, hj] at hi
        show (match w1.find? (fun q9 => decide (q9.1 = q.1)) with | some q => q.2 | none => f q.1) = q.2
        rw [hx]
        cases hi; rfl
    · have hx : w1.find? (fun q9 => decide (q9.1 = b)) = none := List.find?_eq_none.mpr (fun q hq h9 => hb (by
        rw [← hw]
        have h9 : q.1 = b := by simpa using h9
        rw [← h9]; exact List.mem_map.mpr ⟨q, hq, rfl⟩))
      show (match w1.find? (fun q9 => decide (q9.1 = b)) with | some q => q.2 | none => f b) = f b
      rw [hx]
  obtain ⟨f1, hf1, hf2⟩ := hfx
  refine ⟨f1, hf1, hf2, ?_, ?_⟩
  · intro k q hq
    simp only [va_pl, List.getElem?_map] at hq
    cases hb : L[k]? with
    | none => rw [hb] at hq; cases hq
    | some b =>
      rw [hb] at hq
      cases hq
      by_cases hw9 : b ∈ wc.map Prod.fst
      · have hw8 := hw9
        rw [← hw] at hw8
        obtain ⟨r, hr1, hr2⟩ := List.mem_map.mp hw8
        obtain ⟨i, hi⟩ := List.getElem?_of_mem hr1
        have h3 := hP1 i r hi
        show va_at D vwCl (b, f1 b) _
        rw [← hr2, hf1 r hr1]; exact h3
      · show va_at D vwCl (b, f1 b) _
        rw [hf2 b hw9]
        have h3 : va_at D vwCl (b, f b) H := hP k (b, f b) (by simp only [va_pl, List.getElem?_map, hb]; rfl)
        refine h3.kept (hk2 b h3.lt (fun z => ?_))
        rcases z with ⟨k9, e9, z⟩ | z
        · exact hw9 (List.mem_map.mpr ⟨(b, e9), List.mem_of_getElem? z, rfl⟩)
        · exact absurd h3.lt (by show ¬ b < H.size; omega)
  · have key : ∀ (k : Nat) (q : Nat × va_E), (va_pl L f1)[k]? = some q → (va_pl L f)[k]? = some (q.1, f q.1) := fun k q hq => by
      simp only [va_pl, List.getElem?_map] at hq ⊢
      cases hb : L[k]? with
      | none => rw [hb] at hq; cases hq
      | some b => rw [hb] at hq; cases hq; rfl
    exact ⟨fun i j p q hi hj e => hD.1 i j _ _ (key i p hi) (key j q hj) e, fun k q hq => hD.2 k (q.1, f q.1) (key k q hq)⟩
section HLPL
variable {p : Program} {l : Launch} {e : Env} {R : Room} {s : State} {m : MethodId} {args : Array Value} {below : List Frame} {meth : Method} {c : Code} {H : Heap} {locs : List Loc} {cells slots : Nat} {Q : State → Prop}
variable {cc : ByteArray} {pc : Nat} {ls : Array Slot} {rest st0 : List Value} {D : va_G} {cl : List vw_C} {A : Nat → Prop} {a : Nat} {tys : List (ClassId × FieldType)} {ws wc wr wm : va_W} {H0 : Heap} {av : Array Value} {mc ms : Nat}
variable {jn : Nat} {cI cR cM : ClassId} {g : Nat → Nat} {L : List Nat} {S : Sg} {f : Nat → va_E}
/-- a call: what it may write, what stays -/
theorem call_fr {S : Type} {ans : S → Option Value} {w1 : S → va_W} {post : S → Prop} (hr : va_Run p l e R s m args below meth c H locs cells slots mc ms (F0 m pc ls st0) rest (QG ans w1 post D (va_A wc H.size) av) (va_A wc H.size)) (hF : ∀ q, va_A wc H.size q → A q) (hS : va_S A H0 H locs)
    (kk : ∀ (u : S) (H1 : Heap) (locs1 : List Loc), post u → va_P D vwCl (w1 u) H1 → va_D (va_A wc H.size) (w1 u) → (∀ q : Nat, q < H.size → ¬ va_A wc H.size q → H1[q]? = H[q]?) → va_S A H0 H1 locs1 → W p l e R s m args below meth c H1 locs1 (cells + mc) (slots + ms) Q (F0 m (pc + 3) ls ((ans u).toList ++ rest))) : W p l e R s m args below meth c H locs cells slots Q (F0 m pc ls st0) := by
  intro T hT X
  obtain ⟨v', st₀, t, T', L, h0, X', hL, e1, e2, ⟨⟨u, hv, hp, hP1, hD1⟩, hz, hk⟩, st⟩ := hr T hT X
  cases hv
  rw [h0] at hz hk
  rw [← e1] at hP1
  have hk2 : ∀ q : Nat, q < H.size → ¬ va_A wc H.size q → T'.heap[q]? = H[q]? := fun q h h2 => by rw [e1]; exact hk q h h2
  have hz2 : H.size ≤ T'.heap.size := by rw [e1]; exact hz
  obtain ⟨t2, a1, b1⟩ := kk u T'.heap (locs ++ L) hp hP1 hD1 hk2
    ⟨Nat.le_trans hS.1 hz2, fun q h1 h2 => by rw [hk2 q (Nat.lt_of_lt_of_le h1 hS.1) (fun z => h2 (hF q z))]; exact hS.2.1 q h1 h2, fun q hq => by
      rcases List.mem_append.mp hq with h | h
      · exact hS.2.2 q h
      · exact hF _ (hL q h)⟩ T' rfl X'
  exact ⟨t2, st t2 a1, b1⟩
theorem F_pl (hD : va_D A (va_pl L f)) (hS : va_S A H0 H locs) (hA : ∀ q, H0.size ≤ q → A q) : ∀ q, va_A (va_pl L f) H.size q → A q := fun q h => by
  rcases h with ⟨k, e, h⟩ | h
  · exact hD.2 k (q, e) h
  · exact hA q (Nat.le_trans hS.1 h)
theorem out_pl (hM : va_P D vwCl wm H) (hap : AP L wm) {k : Nat} {q : Nat × va_E} (hq : wm[k]? = some q) : ¬ va_A (va_pl L f) H.size q.1 := by
  rintro (⟨k9, e9, z⟩ | z)
  · exact hap k q hq (pl_mem z)
  · exact absurd (hM k q hq).lt (Nat.not_lt.mpr z)
/-- a call of the class that makes no cells -/
theorem law_w {T : List Nat} {post : Int32 × (Nat → va_E) → Prop} (hr : va_Run p l e R s m args below meth c H locs cells slots 0 0 (F0 m pc ls st0) rest (QG (S := Int32 × (Nat → va_E)) (fun u => some (.int u.1)) (fun u => va_pl L u.2) post D (va_A (va_pl L f) H.size) av) (va_A (va_pl L f) H.size)) (hp : ∀ u, post u → IN jn cI cR cM g L S u.2 ∧ FR S T f u.2) (h14 : 14 ∉ T) (h31 : 31 ∉ T) (h32 : 32 ∉ T) (J : CS jn cI cR cM D g A L S f H) (hM : va_P D vwCl wm H) (hap : AP L wm) (hS : va_S A H0 H locs) (hA : ∀ q, H0.size ≤ q → A q)
    (kk : ∀ (r : Int32) (f1 : Nat → va_E) (H1 : Heap) (locs1 : List Loc), post (r, f1) → CS jn cI cR cM D g A L S f1 H1 → va_P D vwCl wm H1 → va_S A H0 H1 locs1 → W p l e R s m args below meth c H1 locs1 cells slots Q (F0 m (pc + 3) ls (.int r :: rest))) : W p l e R s m args below meth c H locs cells slots Q (F0 m pc ls st0) := by
  obtain ⟨hG, hI, hTK, hP1, hD1⟩ := J
  have hF := F_pl hD1 hS hA
  refine call_fr hr hF hS (fun u H1 locs1 hw hP hD hk hS1 => ?_)
  obtain ⟨r, f1⟩ := u
  obtain ⟨hI1, hF1⟩ := hp _ hw
  exact kk r f1 H1 locs1 hw ⟨hG, hI1, fun e9 => TK_tags hG hF1 h14 h31 h32 (hTK e9), hP, hD.weaken (fun k q _ h => hF q.1 h)⟩ (hM.kept (fun k q hq => hk q.1 (hM k q hq).lt (out_pl hM hap hq))) hS1
/-- a call of the class that makes cells -/
theorem law_n {post : Int32 × List Nat × Sg × (Nat → va_E) → Prop} (hr : va_Run p l e R s m args below meth c H locs cells slots mc ms (F0 m pc ls st0) rest (QG (S := Int32 × List Nat × Sg × (Nat → va_E)) (fun u => some (.int u.1)) (fun u => va_pl u.2.1 u.2.2.2) post D (va_A (va_pl L f) H.size) av) (va_A (va_pl L f) H.size)) (hp : ∀ u, post u → EXT L S u.2.1 u.2.2.1 ∧ IN jn cI cR cM g u.2.1 u.2.2.1 u.2.2.2 ∧ (jn ≠ 1 → TK g cI u.2.2.2)) (J : CS jn cI cR cM D g A L S f H) (hM : va_P D vwCl wm H) (hap : AP L wm) (hS : va_S A H0 H locs) (hA : ∀ q, H0.size ≤ q → A q)
    (kk : ∀ (r : Int32) (L1 : List Nat) (S1 : Sg) (f1 : Nat → va_E) (H1 : Heap) (locs1 : List Loc), post (r, L1, S1, f1) → CS jn cI cR cM D g A L1 S1 f1 H1 → va_P D vwCl wm H1 → AP L1 wm → va_S A H0 H1 locs1 → W p l e R s m args below meth c H1 locs1 (cells + mc) (slots + ms) Q (F0 m (pc + 3) ls (.int r :: rest))) : W p l e R s m args below meth c H locs cells slots Q (F0 m pc ls st0) := by
  obtain ⟨hG, hI, hTK, hP1, hD1⟩ := J
  have hF := F_pl hD1 hS hA
  refine call_fr hr hF hS (fun u H1 locs1 hw hP hD hk hS1 => ?_)
  obtain ⟨r, L1, S1, f1⟩ := u
  obtain ⟨hX1, hI1, hT1⟩ := hp _ hw
  refine kk r L1 S1 f1 H1 locs1 hw ⟨SG_ext hX1 hG, hI1, hT1, hP, hD.weaken (fun k q _ h => hF q.1 h)⟩ (hM.kept (fun k q hq => hk q.1 (hM k q hq).lt (out_pl hM hap hq))) (fun k q hq hm => ?_) hS1
  obtain ⟨k9, hk9⟩ := pl_at (f := f1) hm
  exact out_pl (f := f) hM hap hq (hD.2 k9 (q.1, f1 q.1) hk9)
/-- a call that changes nothing -/
theorem law_ro {φ : Int32 → Prop} (hr : va_Run p l e R s m args below meth c H locs cells slots 0 0 (F0 m pc ls st0) rest (QP φ H.size av) (va_A [] H.size)) (J : CS jn cI cR cM D g A L S f H) (hM : va_P D vwCl wm H) (hS : va_S A H0 H locs) (hA : ∀ q, H0.size ≤ q → A q)
    (kk : ∀ (r : Int32) (H1 : Heap) (locs1 : List Loc), φ r → CS jn cI cR cM D g A L S f H1 → va_P D vwCl wm H1 → va_S A H0 H1 locs1 → W p l e R s m args below meth c H1 locs1 cells slots Q (F0 m (pc + 3) ls (.int r :: rest))) : W p l e R s m args below meth c H locs cells slots Q (F0 m pc ls st0) := by
  obtain ⟨hG, hI, hTK, hP1, hD1⟩ := J
  refine roP hr hS hA (hP1.app hM) (fun r H1 locs1 hφ hP hS1 => ?_)
  exact kk r H1 locs1 hφ ⟨hG, hI, hTK, P_left hP, hD1⟩ (P_right hP) hS1
theorem law_re {v : Option Value} (hr : va_Run p l e R s m args below meth c H locs cells slots 0 0 (F0 m pc ls st0) rest (QE v H.size av) (va_A [] H.size)) (J : CS jn cI cR cM D g A L S f H) (hM : va_P D vwCl wm H) (hS : va_S A H0 H locs) (hA : ∀ q, H0.size ≤ q → A q)
    (kk : ∀ (H1 : Heap) (locs1 : List Loc), CS jn cI cR cM D g A L S f H1 → va_P D vwCl wm H1 → va_S A H0 H1 locs1 → W p l e R s m args below meth c H1 locs1 cells slots Q (F0 m (pc + 3) ls (v.toList ++ rest))) : W p l e R s m args below meth c H locs cells slots Q (F0 m pc ls st0) := by
  obtain ⟨hG, hI, hTK, hP1, hD1⟩ := J
  refine ro hr hS hA (hP1.app hM) (fun H1 locs1 hP hS1 => ?_)
  exact kk H1 locs1 ⟨hG, hI, hTK, P_left hP, hD1⟩ (P_right hP) hS1
theorem is_in {isC : List Nat} (hC : isC.map (fun i => ws[i]?) = wc.map some) {k : Nat} {q : Nat × va_E} (hq : wc[k]? = some q) : ∃ i : Nat, ws[i]? = some q := by
  have h1 : (wc.map some)[k]? = some (some q) := by rw [List.getElem?_map, hq]; rfl
  rw [← hC, List.getElem?_map] at h1
  cases hi : isC[k]? with
  | none => rw [hi] at h1; cases h1
  | some i => rw [hi] at h1; exact ⟨i, by simpa using h1⟩
/-- a call of the reference: some of its cells -/
theorem law_ms {S9 : Type} {ans : S9 → Option Value} {w1 : S9 → va_W} {post : S9 → Prop} (hr : va_Run p l e R s m args below meth c H locs cells slots mc ms (F0 m pc ls st0) rest (QG ans w1 post D (va_A wc H.size) av) (va_A wc H.size)) (J : CS jn cI cR cM D g A L S f H) (hM : va_P D vwCl wm H) (hDM : va_D A wm) (hap : AP L wm) (hS : va_S A H0 H locs) (hA : ∀ q, H0.size ≤ q → A q) (isC isR : List Nat) (hC : isC.map (fun i => wm[i]?) = wc.map some) (hR : isR.map (fun i => wm[i]?) = wr.map some) (hn : va_nd isR = true) (hdis : ∀ i ∈ isR, i ∉ isC)
    (kk : ∀ (u : S9) (H1 : Heap) (locs1 : List Loc), post u → CS jn cI cR cM D g A L S f H1 → va_P D vwCl (wr ++ w1 u) H1 → va_D A (wr ++ w1 u) → AP L (wr ++ w1 u) → va_S A H0 H1 locs1 → W p l e R s m args below meth c H1 locs1 (cells + mc) (slots + ms) Q (F0 m (pc + 3) ls ((ans u).toList ++ rest))) : W p l e R s m args below meth c H locs cells slots Q (F0 m pc ls st0) := by
  obtain ⟨hG, hI, hTK, hP1, hD1⟩ := J
  have hF := va_free (wc := wc) hDM hS hA isC hC
  have hno : ∀ a, a ∈ L → ¬ va_A wc H.size a := by
    rintro a ha (⟨k9, e9, z⟩ | z)
    · obtain ⟨i, hi⟩ := is_in hC z
      exact hap i _ hi ha
    · obtain ⟨k9, hk9⟩ := pl_at (f := f) ha
      exact absurd (hP1 k9 _ hk9).lt (Nat.not_lt.mpr z)
  refine call_fr hr hF hS (fun u H1 locs1 hw hP hD hk hS1 => ?_)
  obtain ⟨hP2, hD2⟩ := va_join hM hDM isC isR hC hR hn hdis hk hF hP hD
  refine kk u H1 locs1 hw ⟨hG, hI, hTK, hP1.kept (fun k q hq => hk q.1 (hP1 k q hq).lt (hno q.1 (pl_memq hq))), hD1⟩ hP2 hD2 (fun k q hq hm => ?_) hS1
  by_cases hlt : k < wr.length
  · rw [List.getElem?_append_left hlt] at hq
    obtain ⟨i, hi⟩ := is_in hR hq
    exact hap i q hi hm
  · rw [List.getElem?_append_right (Nat.le_of_not_lt hlt)] at hq
    exact hno q.1 hm (hD.2 _ q hq)
end HLPL
/-- what the reference keeps between calls -/
def RI (jn : Nat) (x0 x1 x2 x18 x19 x20 : Int32) (f0 f1 f10 f11 f18 : Nat → Int32) : Prop := (0 ≤ x0.toInt ∧ x0.toInt ≤ 60) ∧ (0 ≤ x1.toInt ∧ x1.toInt ≤ x0.toInt) ∧ (0 ≤ x2.toInt ∧ x2.toInt ≤ 300) ∧ (0 ≤ x18.toInt ∧ x18.toInt ≤ 300) ∧ (0 < x18.toInt → ∃ S : Nat, S < 512 ∧ x20 = nI S ∧ (bc S : Int) = x19.toInt) ∧ RowsX jn f0 ∧ RowsZ jn f0 ∧ SeenX f1 ∧ FM f10 ∧ MK f11 ∧ ∀ j9 : Nat, j9 < 512 → f18 j9 = 0
/-- both, side by side -/
def JS (jn : Nat) (cI cR cM : ClassId) (D : va_G) (g : Nat → Nat) (A : Nat → Prop) (mm : Nat) (q : Nat → Nat) (H : Heap) : Prop := ∃ (L : List Nat) (S : Sg) (f : Nat → va_E) (x0 x1 x2 x3 x4 x5 x6 x7 x8 x9 x10 x11 x12 x13 x14 x15 x16 x17 x18 x19 x20 : Int32) (f0 f1 f2 f3 f4 f5 f6 f7 f8 f9 f10 f11 f12 f13 f14 f15 f16 f17 f18 f19 f20 f21 f22 f23 f24 : Nat → Int32), CS jn cI cR cM D g A L S f H ∧ va_P D vwCl (mX mm q jn cI x0 x1 x2 x3 x4 x5 x6 x7 x8 x9 x10 x11 x12 x13 x14 x15 x16 x17 x18 x19 x20 f0 f1 f2 f3 f4 f5 f6 f7 f8 f9 f10 f11 f12 f13 f14 f15 f16 f17 f18 f19 f20 f21 f22 f23 f24) H ∧ va_D A (mX mm q jn cI x0 x1 x2 x3 x4 x5 x6 x7 x8 x9 x10 x11 x12 x13 x14 x15 x16 x17 x18 x19 x20 f0 f1 f2 f3 f4 f5 f6 f7 f8 f9 f10 f11 f12 f13 f14 f15 f16 f17 f18 f19 f20 f21 f22 f23 f24) ∧ AP L (mX mm q jn cI x0 x1 x2 x3 x4 x5 x6 x7 x8 x9 x10 x11 x12 x13 x14 x15 x16 x17 x18 x19 x20 f0 f1 f2 f3 f4 f5 f6 f7 f8 f9 f10 f11 f12 f13 f14 f15 f16 f17 f18 f19 f20 f21 f22 f23 f24) ∧ LKx jn cI cR g L S f x0 x1 x2 f0 f2 ∧ SCx cI g f x18 x20 f21 f22 ∧ RI jn x0 x1 x2 x18 x19 x20 f0 f1 f10 f11 f18
