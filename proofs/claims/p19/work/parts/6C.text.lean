def txtS : List String := ["row", "seen", "back", "over", "dual", "turn", "p", "=;*()[]<>|?"]
def idxS : List Nat := [78, 84, 86, 88, 90, 92, 94, 71]
def lenS : List Nat := [3, 4, 4, 4, 4, 4, 1, 11]
def bytS : List (List Int32) := [[114, 111, 119], [115, 101, 101, 110], [98, 97, 99, 107], [111, 118, 101, 114], [100, 117, 97, 108], [116, 117, 114, 110], [112], [61, 59, 42, 40, 41, 91, 93, 60, 62, 124, 63]]
theorem lnS {i : Nat} {z : Int32} (hi : i < 8) (h : z = nI (lenS.getD i 0)) : z.toInt = (lenS.getD i 0 : Nat) ∧ lenS.getD i 0 ≤ 11 := by
  have h1 : ∀ i, i < 8 → lenS.getD i 0 ≤ 11 := by decide +kernel
  have := h1 i hi
  rw [h, nI_toInt (by omega)]
  exact ⟨rfl, this⟩
/-- the class's texts and what the library's text methods read, as they stand below B0 -/
def ST (adK adV : Nat → Nat) (B0 : Nat) (U : State) : Prop := B0 ≤ U.heap.size ∧ vk_S 8 lenS bytS adK adV (fun q => B0 ≤ q) U U.heap ∧ (∀ i, i < 8 → vk_R RX8 (idxS.getD i 0) (txtS.getD i "") (adK i) U) ∧ va_Z "java/lang/String" "COMPACT_STRINGS" "Z" (.int 1) (fun q => B0 ≤ q) U U.heap ∧ va_Zq "jdk/internal/util/Preconditions" "SIOOBE_FORMATTER" "Ljava/util/function/BiFunction;" (fun q => B0 ≤ q) U U.heap
theorem ST_at {adK adV : Nat → Nat} {B0 : Nat} {s U : State} {A : Nat → Prop} {H : Heap} {locs : List Loc} (h : ST adK adV B0 s) (hS : va_S A s.heap H locs) (hAB : ∀ q, A q → B0 ≤ q) (hU : U.heap = H) (hW : s.WarmedH U.vm) : ST adK adV B0 U := by
  have hk : ∀ a : Nat, a < s.heap.size → ¬ B0 ≤ a → U.heap[a]? = s.heap[a]? := fun a ha hna => by rw [hU]; exact hS.2.1 a ha (fun z => hna (hAB a z))
  refine ⟨Nat.le_trans h.1 (by rw [hU]; exact hS.1), (h.2.1.kept hk).moved hW.alike, fun i hi => (h.2.2.1 i hi).warm hW, (h.2.2.2.1.kept hk).moved hW.alike, (h.2.2.2.2.kept hk).moved hW.alike⟩
theorem ST_call {adK adV : Nat → Nat} {B0 : Nat} {U : State} {g : JFrame} {mk : MethodId} {a : Array Value} (h : ST adK adV B0 U) : ST adK adV B0 (U.calling g mk a) :=
  ⟨h.1, vk_S.moved (u := U) (U := U.calling g mk a) (Vm.Alike.refl U.vm) h.2.1, fun i hi => vk_R.same (u := U) (U := U.calling g mk a) rfl (h.2.2.1 i hi), va_Z.moved (u := U) (U := U.calling g mk a) (Vm.Alike.refl U.vm) h.2.2.2.1, va_Zq.moved (u := U) (U := U.calling g mk a) (Vm.Alike.refl U.vm) h.2.2.2.2⟩
def P0S (D : va_G) (cI cR cM : ClassId) (av : List Value) (sz : Nat) (ws : va_W) (adK adV : Nat → Nat) (B0 : Nat) : Array Value → State → Prop := va_Pc av (fun U => U.heap.size = sz ∧ va_P D vwCl ws U.heap ∧ KK D cI cR cM U ∧ va_D (fun _ => True) ws ∧ ST adK adV B0 U)
theorem P0S_blind {D : va_G} {cI cR cM : ClassId} {av : List Value} {sz : Nat} {ws : va_W} {adK adV : Nat → Nat} {B0 : Nat} : FrameBlind (P0S D cI cR cM av sz ws adK adV B0) := fun _ _ _ _ q => ⟨q.1, q.2.1, q.2.2.1, q.2.2.2.1.calling, q.2.2.2.2.1, ST_call q.2.2.2.2.2⟩
theorem pre_SS {D : va_G} {cI cR cM : ClassId} {s : State} {H : Heap} {As : List Value} {ws : va_W} {A A2 : Nat → Prop} {adK adV : Nat → Nat} {B0 : Nat} {locs : List Loc} (hK : KK D cI cR cM s) (hST : ST adK adV B0 s) (hS : va_S A s.heap H locs) (hAB : ∀ q, A q → B0 ≤ q) (hP : va_P D vwCl ws H) (hD : va_D A2 ws) : PreS s H (P0S D cI cR cM As H.size ws adK adV B0) As :=
  ⟨P0S_blind, fun U hU hW => ⟨rfl, by rw [hU], by rw [hU]; exact hP, hK.warm hW, hD.weaken (fun _ _ _ _ => trivial), ST_at hST hS hAB hU hW⟩⟩
theorem pre_SV {D : va_G} {cI cR cM : ClassId} {s : State} {H : Heap} {As : List Value} {A : Nat → Prop} {adK adV : Nat → Nat} {B0 i : Nat} {locs : List Loc} (hK : KK D cI cR cM s) (hST : ST adK adV B0 s) (hS : va_S A s.heap H locs) (hAB : ∀ q, A q → B0 ≤ q) (hV : vk_S 8 lenS bytS adK adV A s s.heap) (hi : i < 8) : PreV s H RJ0 (adK i) (P0S D cI cR cM (.ref (adK i) :: As) H.size [] adK adV B0) As :=
  ⟨P0S_blind, vk_recv hV hi hS, fun U hU hW => ⟨rfl, by rw [hU], va_P_nil, hK.warm hW, va_D_nil, ST_at hST hS hAB hU hW⟩⟩
theorem pre_TS {D : va_G} {cI cR cM : ClassId} {s : State} {H : Heap} {As fs : List Value} {A : Nat → Prop} {adK adV : Nat → Nat} {B0 a ci : Nat} {q : vw_C} {locs : List Loc} {L : List Nat} {f : Nat → va_E} (hK : KK D cI cR cM s) (hST : ST adK adV B0 s) (hS : va_S A s.heap H locs) (hAB : ∀ q, A q → B0 ≤ q) (hP : va_P D vwCl (va_pl L f) H) {A2 : Nat → Prop} (hD : va_D A2 (va_pl L f)) (hm : a ∈ L) (hf : f a = .inr (ci, fs)) (hc : vwCl[ci]? = some q) : PreV s H q.1 a (P0S D cI cR cM (.ref a :: As) H.size (va_pl L f) adK adV B0) As := by
  obtain ⟨q0, he⟩ := pl_at (f := f) hm
  rw [hf] at he
  exact ⟨P0S_blind, va_recv hK.1 hP hc he, fun U hU hW => ⟨rfl, by rw [hU], by rw [hU]; exact hP, hK.warm hW, hD.weaken (fun _ _ _ _ => trivial), ST_at hST hS hAB hU hW⟩⟩
theorem pl_mem {L : List Nat} {f : Nat → va_E} {k q : Nat} {e : va_E} (h : (va_pl L f)[k]? = some (q, e)) : q ∈ L := by
  simp only [va_pl, List.getElem?_map] at h
  cases hb : L[k]? with
  | none => rw [hb] at h; cases h
  | some b => rw [hb] at h; cases h; exact List.mem_of_getElem? hb
theorem goS {l : Launch} {y : MethodName} {ws ws' : List Cond} {rm : Room} {D : va_G} {cI cR cM : ClassId} {av : List Value} {sz : Nat} {wc : va_W} {adK adV : Nat → Nat} {B0 : Nat} {Qc : Array Value → State → Outcome → State → Prop} {mc ms : Nat} {free : Addr → Prop} {cc : ByteArray} {maxL : Nat} {ret : Option FieldType} (hy : plainName y.cls = true) (hw : ws = Cond.code y cc maxL ret :: ws') (hlen : (lg_sl av).length ≤ maxL)
    (body : ∀ (p : Program) (e : Env) (s : State) (m : MethodId) (below : List Frame) (meth : Method) (c : Code) (ls : Array Slot) (args : Array Value) (Q : State → Prop), Q = MQ below Qc args s mc ms free → s.heap.size = sz → p.tables.exec = Jvm.exec → c.code = cc → meth.sig.returnType = ret → c.maxLocals = maxL → (∀ w ∈ ws, w.before args s = true) → s.vm.findClass y.cls = some m.cls → meth.locks = false → meth.name = y.name → va_P D vwCl wc s.heap → KK D cI cR cM s → va_D (fun _ => True) wc → lv_has ls maxL (lv_args 0 av) → ST adK adV B0 s → W p l e rm s m args below meth c s.heap [] 0 0 Q (F0 m 0 ls [])) : Met l y ws rm (P0S D cI cR cM av sz wc adK adV B0) Qc mc ms free := by
  refine Met.ofW (cc := cc) (maxL := maxL) (ret := ret) hy hw ?_
  intro p e s m args below meth c s₁ B hml hv
  obtain ⟨rfl, hsz, hP, hK, hD, hST⟩ := hv
  have hl := lv_entry av (n := maxL) hlen
  rw [lg_entry_eq]
  exact body p e s m below meth c _ _ _ rfl hsz B.exec B.bytes B.returns hml (atoms_spec (ws := ws) B.pre) (findClass_of_methodNamed B.named) B.notSynchronized (name_of_methodNamed B.named B.method).1 hP hK hD hl hST
theorem sg40 {j : Int} {z : Int32} (hj : 0 ≤ j ∧ j < 11) (h : z = ((bytS.getD 7 []).getD j.toNat 0)) : 40 ≤ z.toInt := by
  have h1 : ∀ k, k < 11 → 40 ≤ ((bytS.getD 7 []).getD k 0).toInt := by decide +kernel
  rw [h]; exact h1 j.toNat (by omega)
theorem i2b2 {x z : Int32} (h : z = x.toInt8.toInt32) : x.toInt = 2 → z.toInt = 2 := fun e => by
  have : x = 2 := Int32.toInt_inj.mp e
  rw [h, this]; decide
theorem i2c2 {x z : Int32} (h : z = (x.toUInt32 % 65536).toInt32) : x.toInt = 2 → z.toInt = 2 := fun e => by
  have : x = 2 := Int32.toInt_inj.mp e
  rw [h, this]; decide
theorem shr0 {z y : Int32} (h : z = y >>> ((0 : Int32) &&& 31)) (hy : 0 ≤ y.toInt) : z.toInt = y.toInt := by
  have e : ((0 : Int32) &&& 31) = 0 := by decide
  rw [h, e]
  have : y >>> (0 : Int32) = y := by
    apply Int32.toBitVec_inj.mp
    simp
  rw [this]
section HLPY
variable {p : Program} {l : Launch} {e : Env} {R : Room} {s : State} {m : MethodId} {args : Array Value} {below : List Frame} {meth : Method} {c : Code} {H : Heap} {locs : List Loc} {cells slots : Nat} {Q : State → Prop}
variable {cc : ByteArray} {pc : Nat} {ls : Array Slot} {rest st0 : List Value} {D : va_G} {cl : List vw_C} {A : Nat → Prop} {a : Nat} {tys : List (ClassId × FieldType)} {ws wc wr : va_W} {H0 : Heap} {av : Array Value} {mc ms : Nat}
theorem rp_nret {v : Int32} {ty : FieldType} {φ : Int32 → Prop} (hx : p.tables.exec = Jvm.exec) (hb : c.code = cc) (hr : meth.sig.returnType = some ty) (hn : narrow ty (.int v) = .int v) (hlocks : meth.locks = false) (hS : va_S (va_A [] s.heap.size) s.heap H locs) (hφ : φ v) (hQ : Q = MQ below (QP φ s.heap.size) args s 0 0 (va_A [] s.heap.size)) (hdg : decode cc pc = .ok (.ireturn, 1)) : W p l e R s m args below meth c H locs 0 0 Q (F0 m pc ls [.int v]) := by
  rw [hQ]
  exact W.zret hx hb hr hn (fun t ht hW => ⟨⟨v, rfl, hφ⟩, hS.F ht⟩) hS.2.2 hdg hlocks
end HLPY
theorem dX8_signKind_0 : decode cX8_signKind 0 = .ok (.iload_n 0, 1) := by decide +kernel
theorem dX8_signKind_1 : decode cX8_signKind 1 = .ok (.bipush 48, 2) := by decide +kernel
theorem dX8_signKind_3 : decode cX8_signKind 3 = .ok (.if_icmp .lt 11, 3) := by decide +kernel
theorem dX8_signKind_6 : decode cX8_signKind 6 = .ok (.iload_n 0, 1) := by decide +kernel
theorem dX8_signKind_7 : decode cX8_signKind 7 = .ok (.bipush 57, 2) := by decide +kernel
theorem dX8_signKind_9 : decode cX8_signKind 9 = .ok (.if_icmp .gt 5, 3) := by decide +kernel
theorem dX8_signKind_12 : decode cX8_signKind 12 = .ok (.iconst 2, 1) := by decide +kernel
theorem dX8_signKind_13 : decode cX8_signKind 13 = .ok (.ireturn, 1) := by decide +kernel
theorem dX8_signKind_14 : decode cX8_signKind 14 = .ok (.ldc 71, 2) := by decide +kernel
theorem dX8_signKind_16 : decode cX8_signKind 16 = .ok (.iload_n 0, 1) := by decide +kernel
theorem dX8_signKind_17 : decode cX8_signKind 17 = .ok (.i2c, 1) := by decide +kernel
theorem dX8_signKind_18 : decode cX8_signKind 18 = .ok (.invokevirtual 73, 3) := by decide +kernel
theorem dX8_signKind_21 : decode cX8_signKind 21 = .ok (.ifCond .lt 7, 3) := by decide +kernel
theorem dX8_signKind_24 : decode cX8_signKind 24 = .ok (.iload_n 0, 1) := by decide +kernel
theorem dX8_signKind_25 : decode cX8_signKind 25 = .ok (.goto 4, 3) := by decide +kernel
theorem dX8_signKind_28 : decode cX8_signKind 28 = .ok (.iconst 1, 1) := by decide +kernel
theorem dX8_signKind_29 : decode cX8_signKind 29 = .ok (.ireturn, 1) := by decide +kernel
theorem dX8_wordKind_0 : decode cX8_wordKind 0 = .ok (.aload_n 0, 1) := by decide +kernel
theorem dX8_wordKind_1 : decode cX8_wordKind 1 = .ok (.getfield 21, 3) := by decide +kernel
theorem dX8_wordKind_4 : decode cX8_wordKind 4 = .ok (.iload_n 1, 1) := by decide +kernel
theorem dX8_wordKind_5 : decode cX8_wordKind 5 = .ok (.invokevirtual 34, 3) := by decide +kernel
theorem dX8_wordKind_8 : decode cX8_wordKind 8 = .ok (.istore_n 3, 1) := by decide +kernel
theorem dX8_wordKind_9 : decode cX8_wordKind 9 = .ok (.iload_n 2, 1) := by decide +kernel
theorem dX8_wordKind_10 : decode cX8_wordKind 10 = .ok (.iload_n 1, 1) := by decide +kernel
theorem dX8_wordKind_11 : decode cX8_wordKind 11 = .ok (.isub, 1) := by decide +kernel
theorem dX8_wordKind_12 : decode cX8_wordKind 12 = .ok (.iconst 1, 1) := by decide +kernel
theorem dX8_wordKind_13 : decode cX8_wordKind 13 = .ok (.if_icmp .ne 17, 3) := by decide +kernel
theorem dX8_wordKind_16 : decode cX8_wordKind 16 = .ok (.iload_n 3, 1) := by decide +kernel
theorem dX8_wordKind_17 : decode cX8_wordKind 17 = .ok (.bipush 65, 2) := by decide +kernel
theorem dX8_wordKind_19 : decode cX8_wordKind 19 = .ok (.if_icmp .lt 11, 3) := by decide +kernel
theorem dX8_wordKind_22 : decode cX8_wordKind 22 = .ok (.iload_n 3, 1) := by decide +kernel
theorem dX8_wordKind_23 : decode cX8_wordKind 23 = .ok (.bipush 73, 2) := by decide +kernel
theorem dX8_wordKind_25 : decode cX8_wordKind 25 = .ok (.if_icmp .ge 5, 3) := by decide +kernel
theorem dX8_wordKind_28 : decode cX8_wordKind 28 = .ok (.iconst 3, 1) := by decide +kernel
theorem dX8_wordKind_29 : decode cX8_wordKind 29 = .ok (.ireturn, 1) := by decide +kernel
theorem dX8_wordKind_30 : decode cX8_wordKind 30 = .ok (.aload_n 0, 1) := by decide +kernel
theorem dX8_wordKind_31 : decode cX8_wordKind 31 = .ok (.ldc 78, 2) := by decide +kernel
theorem dX8_wordKind_33 : decode cX8_wordKind 33 = .ok (.iload_n 1, 1) := by decide +kernel
theorem dX8_wordKind_34 : decode cX8_wordKind 34 = .ok (.iload_n 2, 1) := by decide +kernel
theorem dX8_wordKind_35 : decode cX8_wordKind 35 = .ok (.invokevirtual 80, 3) := by decide +kernel
theorem dX8_wordKind_38 : decode cX8_wordKind 38 = .ok (.ifCond .eq 5, 3) := by decide +kernel
theorem dX8_wordKind_41 : decode cX8_wordKind 41 = .ok (.iconst 4, 1) := by decide +kernel
theorem dX8_wordKind_42 : decode cX8_wordKind 42 = .ok (.ireturn, 1) := by decide +kernel
theorem dX8_wordKind_43 : decode cX8_wordKind 43 = .ok (.aload_n 0, 1) := by decide +kernel
theorem dX8_wordKind_44 : decode cX8_wordKind 44 = .ok (.ldc 84, 2) := by decide +kernel
theorem dX8_wordKind_46 : decode cX8_wordKind 46 = .ok (.iload_n 1, 1) := by decide +kernel
theorem dX8_wordKind_47 : decode cX8_wordKind 47 = .ok (.iload_n 2, 1) := by decide +kernel
theorem dX8_wordKind_48 : decode cX8_wordKind 48 = .ok (.invokevirtual 80, 3) := by decide +kernel
theorem dX8_wordKind_51 : decode cX8_wordKind 51 = .ok (.ifCond .eq 5, 3) := by decide +kernel
theorem dX8_wordKind_54 : decode cX8_wordKind 54 = .ok (.iconst 5, 1) := by decide +kernel
theorem dX8_wordKind_55 : decode cX8_wordKind 55 = .ok (.ireturn, 1) := by decide +kernel
theorem dX8_wordKind_56 : decode cX8_wordKind 56 = .ok (.aload_n 0, 1) := by decide +kernel
theorem dX8_wordKind_57 : decode cX8_wordKind 57 = .ok (.ldc 86, 2) := by decide +kernel
theorem dX8_wordKind_59 : decode cX8_wordKind 59 = .ok (.iload_n 1, 1) := by decide +kernel
theorem dX8_wordKind_60 : decode cX8_wordKind 60 = .ok (.iload_n 2, 1) := by decide +kernel
theorem dX8_wordKind_61 : decode cX8_wordKind 61 = .ok (.invokevirtual 80, 3) := by decide +kernel
theorem dX8_wordKind_64 : decode cX8_wordKind 64 = .ok (.ifCond .eq 6, 3) := by decide +kernel
theorem dX8_wordKind_67 : decode cX8_wordKind 67 = .ok (.bipush 6, 2) := by decide +kernel
theorem dX8_wordKind_69 : decode cX8_wordKind 69 = .ok (.ireturn, 1) := by decide +kernel
theorem dX8_wordKind_70 : decode cX8_wordKind 70 = .ok (.aload_n 0, 1) := by decide +kernel
theorem dX8_wordKind_71 : decode cX8_wordKind 71 = .ok (.ldc 88, 2) := by decide +kernel
theorem dX8_wordKind_73 : decode cX8_wordKind 73 = .ok (.iload_n 1, 1) := by decide +kernel
theorem dX8_wordKind_74 : decode cX8_wordKind 74 = .ok (.iload_n 2, 1) := by decide +kernel
theorem dX8_wordKind_75 : decode cX8_wordKind 75 = .ok (.invokevirtual 80, 3) := by decide +kernel
theorem dX8_wordKind_78 : decode cX8_wordKind 78 = .ok (.ifCond .eq 6, 3) := by decide +kernel
theorem dX8_wordKind_81 : decode cX8_wordKind 81 = .ok (.bipush 7, 2) := by decide +kernel
theorem dX8_wordKind_83 : decode cX8_wordKind 83 = .ok (.ireturn, 1) := by decide +kernel
theorem dX8_wordKind_84 : decode cX8_wordKind 84 = .ok (.aload_n 0, 1) := by decide +kernel
theorem dX8_wordKind_85 : decode cX8_wordKind 85 = .ok (.ldc 90, 2) := by decide +kernel
theorem dX8_wordKind_87 : decode cX8_wordKind 87 = .ok (.iload_n 1, 1) := by decide +kernel
theorem dX8_wordKind_88 : decode cX8_wordKind 88 = .ok (.iload_n 2, 1) := by decide +kernel
theorem dX8_wordKind_89 : decode cX8_wordKind 89 = .ok (.invokevirtual 80, 3) := by decide +kernel
theorem dX8_wordKind_92 : decode cX8_wordKind 92 = .ok (.ifCond .eq 6, 3) := by decide +kernel
theorem dX8_wordKind_95 : decode cX8_wordKind 95 = .ok (.bipush 8, 2) := by decide +kernel
theorem dX8_wordKind_97 : decode cX8_wordKind 97 = .ok (.ireturn, 1) := by decide +kernel
theorem dX8_wordKind_98 : decode cX8_wordKind 98 = .ok (.aload_n 0, 1) := by decide +kernel
theorem dX8_wordKind_99 : decode cX8_wordKind 99 = .ok (.ldc 92, 2) := by decide +kernel
theorem dX8_wordKind_101 : decode cX8_wordKind 101 = .ok (.iload_n 1, 1) := by decide +kernel
theorem dX8_wordKind_102 : decode cX8_wordKind 102 = .ok (.iload_n 2, 1) := by decide +kernel
theorem dX8_wordKind_103 : decode cX8_wordKind 103 = .ok (.invokevirtual 80, 3) := by decide +kernel
theorem dX8_wordKind_106 : decode cX8_wordKind 106 = .ok (.ifCond .eq 6, 3) := by decide +kernel
theorem dX8_wordKind_109 : decode cX8_wordKind 109 = .ok (.bipush 9, 2) := by decide +kernel
theorem dX8_wordKind_111 : decode cX8_wordKind 111 = .ok (.ireturn, 1) := by decide +kernel
theorem dX8_wordKind_112 : decode cX8_wordKind 112 = .ok (.aload_n 0, 1) := by decide +kernel
theorem dX8_wordKind_113 : decode cX8_wordKind 113 = .ok (.ldc 94, 2) := by decide +kernel
theorem dX8_wordKind_115 : decode cX8_wordKind 115 = .ok (.iload_n 1, 1) := by decide +kernel
theorem dX8_wordKind_116 : decode cX8_wordKind 116 = .ok (.iload_n 2, 1) := by decide +kernel
theorem dX8_wordKind_117 : decode cX8_wordKind 117 = .ok (.invokevirtual 80, 3) := by decide +kernel
theorem dX8_wordKind_120 : decode cX8_wordKind 120 = .ok (.ifCond .eq 8, 3) := by decide +kernel
theorem dX8_wordKind_123 : decode cX8_wordKind 123 = .ok (.bipush 10, 2) := by decide +kernel
theorem dX8_wordKind_125 : decode cX8_wordKind 125 = .ok (.goto 4, 3) := by decide +kernel
theorem dX8_wordKind_128 : decode cX8_wordKind 128 = .ok (.iconst 1, 1) := by decide +kernel
theorem dX8_wordKind_129 : decode cX8_wordKind 129 = .ok (.ireturn, 1) := by decide +kernel
theorem dX8_spells_0 : decode cX8_spells 0 = .ok (.iload_n 3, 1) := by decide +kernel
theorem dX8_spells_1 : decode cX8_spells 1 = .ok (.iload_n 2, 1) := by decide +kernel
theorem dX8_spells_2 : decode cX8_spells 2 = .ok (.isub, 1) := by decide +kernel
theorem dX8_spells_3 : decode cX8_spells 3 = .ok (.aload_n 1, 1) := by decide +kernel
theorem dX8_spells_4 : decode cX8_spells 4 = .ok (.invokevirtual 96, 3) := by decide +kernel
theorem dX8_spells_7 : decode cX8_spells 7 = .ok (.if_icmp .eq 5, 3) := by decide +kernel
theorem dX8_spells_10 : decode cX8_spells 10 = .ok (.iconst 0, 1) := by decide +kernel
theorem dX8_spells_11 : decode cX8_spells 11 = .ok (.ireturn, 1) := by decide +kernel
theorem dX8_spells_12 : decode cX8_spells 12 = .ok (.iconst 0, 1) := by decide +kernel
theorem dX8_spells_13 : decode cX8_spells 13 = .ok (.istore 4, 2) := by decide +kernel
theorem dX8_spells_15 : decode cX8_spells 15 = .ok (.iload 4, 2) := by decide +kernel
theorem dX8_spells_17 : decode cX8_spells 17 = .ok (.aload_n 1, 1) := by decide +kernel
theorem dX8_spells_18 : decode cX8_spells 18 = .ok (.invokevirtual 96, 3) := by decide +kernel
theorem dX8_spells_21 : decode cX8_spells 21 = .ok (.if_icmp .ge 31, 3) := by decide +kernel
theorem dX8_spells_24 : decode cX8_spells 24 = .ok (.aload_n 0, 1) := by decide +kernel
theorem dX8_spells_25 : decode cX8_spells 25 = .ok (.getfield 21, 3) := by decide +kernel
theorem dX8_spells_28 : decode cX8_spells 28 = .ok (.iload_n 2, 1) := by decide +kernel
theorem dX8_spells_29 : decode cX8_spells 29 = .ok (.iload 4, 2) := by decide +kernel
theorem dX8_spells_31 : decode cX8_spells 31 = .ok (.iadd, 1) := by decide +kernel
theorem dX8_spells_32 : decode cX8_spells 32 = .ok (.invokevirtual 34, 3) := by decide +kernel
theorem dX8_spells_35 : decode cX8_spells 35 = .ok (.aload_n 1, 1) := by decide +kernel
theorem dX8_spells_36 : decode cX8_spells 36 = .ok (.iload 4, 2) := by decide +kernel
theorem dX8_spells_38 : decode cX8_spells 38 = .ok (.invokevirtual 99, 3) := by decide +kernel
theorem dX8_spells_41 : decode cX8_spells 41 = .ok (.if_icmp .eq 5, 3) := by decide +kernel
theorem dX8_spells_44 : decode cX8_spells 44 = .ok (.iconst 0, 1) := by decide +kernel
theorem dX8_spells_45 : decode cX8_spells 45 = .ok (.ireturn, 1) := by decide +kernel
theorem dX8_spells_46 : decode cX8_spells 46 = .ok (.iinc 4 1, 3) := by decide +kernel
theorem dX8_spells_49 : decode cX8_spells 49 = .ok (.goto (-34), 3) := by decide +kernel
theorem dX8_spells_52 : decode cX8_spells 52 = .ok (.iconst 1, 1) := by decide +kernel
theorem dX8_spells_53 : decode cX8_spells 53 = .ok (.ireturn, 1) := by decide +kernel
theorem dJ0_length_8abf5_0 : decode cJ0_length_8abf5 0 = .ok (.aload_n 0, 1) := by decide +kernel
theorem dJ0_length_8abf5_1 : decode cJ0_length_8abf5 1 = .ok (.getfield 9, 3) := by decide +kernel
theorem dJ0_length_8abf5_4 : decode cJ0_length_8abf5 4 = .ok (.arraylength, 1) := by decide +kernel
theorem dJ0_length_8abf5_5 : decode cJ0_length_8abf5 5 = .ok (.aload_n 0, 1) := by decide +kernel
theorem dJ0_length_8abf5_6 : decode cJ0_length_8abf5 6 = .ok (.invokevirtual 335, 3) := by decide +kernel
theorem dJ0_length_8abf5_9 : decode cJ0_length_8abf5 9 = .ok (.ishr, 1) := by decide +kernel
theorem dJ0_length_8abf5_10 : decode cJ0_length_8abf5 10 = .ok (.ireturn, 1) := by decide +kernel
theorem dJ0_charAt_5068e_0 : decode cJ0_charAt_5068e 0 = .ok (.aload_n 0, 1) := by decide +kernel
theorem dJ0_charAt_5068e_1 : decode cJ0_charAt_5068e 1 = .ok (.invokevirtual 492, 3) := by decide +kernel
theorem dJ0_charAt_5068e_4 : decode cJ0_charAt_5068e 4 = .ok (.ifCond .eq 12, 3) := by decide +kernel
theorem dJ0_charAt_5068e_7 : decode cJ0_charAt_5068e 7 = .ok (.aload_n 0, 1) := by decide +kernel
theorem dJ0_charAt_5068e_8 : decode cJ0_charAt_5068e 8 = .ok (.getfield 9, 3) := by decide +kernel
theorem dJ0_charAt_5068e_11 : decode cJ0_charAt_5068e 11 = .ok (.iload_n 1, 1) := by decide +kernel
theorem dJ0_charAt_5068e_12 : decode cJ0_charAt_5068e 12 = .ok (.invokestatic 495, 3) := by decide +kernel
theorem dJ0_charAt_5068e_15 : decode cJ0_charAt_5068e 15 = .ok (.ireturn, 1) := by decide +kernel
theorem dJ0_indexOf_0f7a4_0 : decode cJ0_indexOf_0f7a4 0 = .ok (.aload_n 0, 1) := by decide +kernel
theorem dJ0_indexOf_0f7a4_1 : decode cJ0_indexOf_0f7a4 1 = .ok (.iload_n 1, 1) := by decide +kernel
theorem dJ0_indexOf_0f7a4_2 : decode cJ0_indexOf_0f7a4 2 = .ok (.iconst 0, 1) := by decide +kernel
theorem dJ0_indexOf_0f7a4_3 : decode cJ0_indexOf_0f7a4 3 = .ok (.invokevirtual 633, 3) := by decide +kernel
theorem dJ0_indexOf_0f7a4_6 : decode cJ0_indexOf_0f7a4 6 = .ok (.ireturn, 1) := by decide +kernel
theorem dJ0_indexOf_7cf53_0 : decode cJ0_indexOf_7cf53 0 = .ok (.aload_n 0, 1) := by decide +kernel
theorem dJ0_indexOf_7cf53_1 : decode cJ0_indexOf_7cf53 1 = .ok (.invokevirtual 492, 3) := by decide +kernel
theorem dJ0_indexOf_7cf53_4 : decode cJ0_indexOf_7cf53 4 = .ok (.ifCond .eq 19, 3) := by decide +kernel
theorem dJ0_indexOf_7cf53_7 : decode cJ0_indexOf_7cf53 7 = .ok (.aload_n 0, 1) := by decide +kernel
theorem dJ0_indexOf_7cf53_8 : decode cJ0_indexOf_7cf53 8 = .ok (.getfield 9, 3) := by decide +kernel
theorem dJ0_indexOf_7cf53_11 : decode cJ0_indexOf_7cf53 11 = .ok (.iload_n 1, 1) := by decide +kernel
theorem dJ0_indexOf_7cf53_12 : decode cJ0_indexOf_7cf53 12 = .ok (.iload_n 2, 1) := by decide +kernel
theorem dJ0_indexOf_7cf53_13 : decode cJ0_indexOf_7cf53 13 = .ok (.aload_n 0, 1) := by decide +kernel
theorem dJ0_indexOf_7cf53_14 : decode cJ0_indexOf_7cf53 14 = .ok (.invokevirtual 505, 3) := by decide +kernel
theorem dJ0_indexOf_7cf53_17 : decode cJ0_indexOf_7cf53 17 = .ok (.invokestatic 637, 3) := by decide +kernel
theorem dJ0_indexOf_7cf53_20 : decode cJ0_indexOf_7cf53 20 = .ok (.goto 16, 3) := by decide +kernel
theorem dJ0_indexOf_7cf53_36 : decode cJ0_indexOf_7cf53 36 = .ok (.ireturn, 1) := by decide +kernel
theorem dJ0_coder_7d493_0 : decode cJ0_coder_7d493 0 = .ok (.getstatic 38, 3) := by decide +kernel
theorem dJ0_coder_7d493_3 : decode cJ0_coder_7d493 3 = .ok (.ifCond .eq 10, 3) := by decide +kernel
theorem dJ0_coder_7d493_6 : decode cJ0_coder_7d493 6 = .ok (.aload_n 0, 1) := by decide +kernel
theorem dJ0_coder_7d493_7 : decode cJ0_coder_7d493 7 = .ok (.getfield 15, 3) := by decide +kernel
theorem dJ0_coder_7d493_10 : decode cJ0_coder_7d493 10 = .ok (.goto 4, 3) := by decide +kernel
theorem dJ0_coder_7d493_14 : decode cJ0_coder_7d493 14 = .ok (.ireturn, 1) := by decide +kernel
theorem dJ0_isLatin1_aae02_0 : decode cJ0_isLatin1_aae02 0 = .ok (.getstatic 38, 3) := by decide +kernel
theorem dJ0_isLatin1_aae02_3 : decode cJ0_isLatin1_aae02 3 = .ok (.ifCond .eq 14, 3) := by decide +kernel
theorem dJ0_isLatin1_aae02_6 : decode cJ0_isLatin1_aae02 6 = .ok (.aload_n 0, 1) := by decide +kernel
theorem dJ0_isLatin1_aae02_7 : decode cJ0_isLatin1_aae02 7 = .ok (.getfield 15, 3) := by decide +kernel
theorem dJ0_isLatin1_aae02_10 : decode cJ0_isLatin1_aae02 10 = .ok (.ifCond .ne 7, 3) := by decide +kernel
theorem dJ0_isLatin1_aae02_13 : decode cJ0_isLatin1_aae02 13 = .ok (.iconst 1, 1) := by decide +kernel
theorem dJ0_isLatin1_aae02_14 : decode cJ0_isLatin1_aae02 14 = .ok (.goto 4, 3) := by decide +kernel
theorem dJ0_isLatin1_aae02_18 : decode cJ0_isLatin1_aae02 18 = .ok (.ireturn, 1) := by decide +kernel
theorem dJ0_checkIndex_df160_0 : decode cJ0_checkIndex_df160 0 = .ok (.iload_n 0, 1) := by decide +kernel
theorem dJ0_checkIndex_df160_1 : decode cJ0_checkIndex_df160 1 = .ok (.iload_n 1, 1) := by decide +kernel
theorem dJ0_checkIndex_df160_2 : decode cJ0_checkIndex_df160 2 = .ok (.getstatic 1053, 3) := by decide +kernel
theorem dJ0_checkIndex_df160_5 : decode cJ0_checkIndex_df160 5 = .ok (.invokestatic 1059, 3) := by decide +kernel
theorem dJ0_checkIndex_df160_8 : decode cJ0_checkIndex_df160 8 = .ok (.pop, 1) := by decide +kernel
theorem dJ0_checkIndex_df160_9 : decode cJ0_checkIndex_df160 9 = .ok (.return_, 1) := by decide +kernel
theorem dJ1_charAt_3b067_0 : decode cJ1_charAt_3b067 0 = .ok (.iload_n 1, 1) := by decide +kernel
theorem dJ1_charAt_3b067_1 : decode cJ1_charAt_3b067 1 = .ok (.aload_n 0, 1) := by decide +kernel
theorem dJ1_charAt_3b067_2 : decode cJ1_charAt_3b067 2 = .ok (.arraylength, 1) := by decide +kernel
theorem dJ1_charAt_3b067_3 : decode cJ1_charAt_3b067 3 = .ok (.invokestatic 9, 3) := by decide +kernel
theorem dJ1_charAt_3b067_6 : decode cJ1_charAt_3b067 6 = .ok (.aload_n 0, 1) := by decide +kernel
theorem dJ1_charAt_3b067_7 : decode cJ1_charAt_3b067 7 = .ok (.iload_n 1, 1) := by decide +kernel
theorem dJ1_charAt_3b067_8 : decode cJ1_charAt_3b067 8 = .ok (.baload, 1) := by decide +kernel
theorem dJ1_charAt_3b067_9 : decode cJ1_charAt_3b067 9 = .ok (.sipush 255, 3) := by decide +kernel
theorem dJ1_charAt_3b067_12 : decode cJ1_charAt_3b067 12 = .ok (.iand, 1) := by decide +kernel
theorem dJ1_charAt_3b067_13 : decode cJ1_charAt_3b067 13 = .ok (.i2c, 1) := by decide +kernel
theorem dJ1_charAt_3b067_14 : decode cJ1_charAt_3b067 14 = .ok (.ireturn, 1) := by decide +kernel
theorem dJ1_canEncode_9a6ad_0 : decode cJ1_canEncode_9a6ad 0 = .ok (.iload_n 0, 1) := by decide +kernel
theorem dJ1_canEncode_9a6ad_1 : decode cJ1_canEncode_9a6ad 1 = .ok (.ifCond .lt 14, 3) := by decide +kernel
theorem dJ1_canEncode_9a6ad_4 : decode cJ1_canEncode_9a6ad 4 = .ok (.iload_n 0, 1) := by decide +kernel
theorem dJ1_canEncode_9a6ad_5 : decode cJ1_canEncode_9a6ad 5 = .ok (.sipush 255, 3) := by decide +kernel
theorem dJ1_canEncode_9a6ad_8 : decode cJ1_canEncode_9a6ad 8 = .ok (.if_icmp .gt 7, 3) := by decide +kernel
theorem dJ1_canEncode_9a6ad_11 : decode cJ1_canEncode_9a6ad 11 = .ok (.iconst 1, 1) := by decide +kernel
theorem dJ1_canEncode_9a6ad_12 : decode cJ1_canEncode_9a6ad 12 = .ok (.goto 4, 3) := by decide +kernel
theorem dJ1_canEncode_9a6ad_15 : decode cJ1_canEncode_9a6ad 15 = .ok (.iconst 0, 1) := by decide +kernel
theorem dJ1_canEncode_9a6ad_16 : decode cJ1_canEncode_9a6ad 16 = .ok (.ireturn, 1) := by decide +kernel
theorem dJ1_indexOf_4cfef_0 : decode cJ1_indexOf_4cfef 0 = .ok (.iload_n 1, 1) := by decide +kernel
theorem dJ1_indexOf_4cfef_1 : decode cJ1_indexOf_4cfef 1 = .ok (.invokestatic 88, 3) := by decide +kernel
theorem dJ1_indexOf_4cfef_4 : decode cJ1_indexOf_4cfef 4 = .ok (.ifCond .ne 5, 3) := by decide +kernel
theorem dJ1_indexOf_4cfef_7 : decode cJ1_indexOf_4cfef 7 = .ok (.iconst (-1), 1) := by decide +kernel
theorem dJ1_indexOf_4cfef_8 : decode cJ1_indexOf_4cfef 8 = .ok (.ireturn, 1) := by decide +kernel
theorem dJ1_indexOf_4cfef_9 : decode cJ1_indexOf_4cfef 9 = .ok (.iload_n 2, 1) := by decide +kernel
theorem dJ1_indexOf_4cfef_10 : decode cJ1_indexOf_4cfef 10 = .ok (.iconst 0, 1) := by decide +kernel
theorem dJ1_indexOf_4cfef_11 : decode cJ1_indexOf_4cfef 11 = .ok (.invokestatic 92, 3) := by decide +kernel
theorem dJ1_indexOf_4cfef_14 : decode cJ1_indexOf_4cfef 14 = .ok (.istore_n 2, 1) := by decide +kernel
theorem dJ1_indexOf_4cfef_15 : decode cJ1_indexOf_4cfef 15 = .ok (.iload_n 3, 1) := by decide +kernel
theorem dJ1_indexOf_4cfef_16 : decode cJ1_indexOf_4cfef 16 = .ok (.aload_n 0, 1) := by decide +kernel
theorem dJ1_indexOf_4cfef_17 : decode cJ1_indexOf_4cfef 17 = .ok (.arraylength, 1) := by decide +kernel
theorem dJ1_indexOf_4cfef_18 : decode cJ1_indexOf_4cfef 18 = .ok (.invokestatic 38, 3) := by decide +kernel
theorem dJ1_indexOf_4cfef_21 : decode cJ1_indexOf_4cfef 21 = .ok (.istore_n 3, 1) := by decide +kernel
theorem dJ1_indexOf_4cfef_22 : decode cJ1_indexOf_4cfef 22 = .ok (.iload_n 2, 1) := by decide +kernel
theorem dJ1_indexOf_4cfef_23 : decode cJ1_indexOf_4cfef 23 = .ok (.iload_n 3, 1) := by decide +kernel
theorem dJ1_indexOf_4cfef_24 : decode cJ1_indexOf_4cfef 24 = .ok (.if_icmp .lt 5, 3) := by decide +kernel
theorem dJ1_indexOf_4cfef_27 : decode cJ1_indexOf_4cfef 27 = .ok (.iconst (-1), 1) := by decide +kernel
theorem dJ1_indexOf_4cfef_28 : decode cJ1_indexOf_4cfef 28 = .ok (.ireturn, 1) := by decide +kernel
theorem dJ1_indexOf_4cfef_29 : decode cJ1_indexOf_4cfef 29 = .ok (.aload_n 0, 1) := by decide +kernel
theorem dJ1_indexOf_4cfef_30 : decode cJ1_indexOf_4cfef 30 = .ok (.iload_n 1, 1) := by decide +kernel
theorem dJ1_indexOf_4cfef_31 : decode cJ1_indexOf_4cfef 31 = .ok (.iload_n 2, 1) := by decide +kernel
theorem dJ1_indexOf_4cfef_32 : decode cJ1_indexOf_4cfef 32 = .ok (.iload_n 3, 1) := by decide +kernel
theorem dJ1_indexOf_4cfef_33 : decode cJ1_indexOf_4cfef 33 = .ok (.invokestatic 95, 3) := by decide +kernel
theorem dJ1_indexOf_4cfef_36 : decode cJ1_indexOf_4cfef 36 = .ok (.ireturn, 1) := by decide +kernel
theorem dJ1_indexOfChar_4cfef_0 : decode cJ1_indexOfChar_4cfef 0 = .ok (.iload_n 1, 1) := by decide +kernel
theorem dJ1_indexOfChar_4cfef_1 : decode cJ1_indexOfChar_4cfef 1 = .ok (.i2b, 1) := by decide +kernel
theorem dJ1_indexOfChar_4cfef_2 : decode cJ1_indexOfChar_4cfef 2 = .ok (.istore 4, 2) := by decide +kernel
theorem dJ1_indexOfChar_4cfef_4 : decode cJ1_indexOfChar_4cfef 4 = .ok (.iload_n 2, 1) := by decide +kernel
theorem dJ1_indexOfChar_4cfef_5 : decode cJ1_indexOfChar_4cfef 5 = .ok (.istore 5, 2) := by decide +kernel
theorem dJ1_indexOfChar_4cfef_7 : decode cJ1_indexOfChar_4cfef 7 = .ok (.iload 5, 2) := by decide +kernel
theorem dJ1_indexOfChar_4cfef_9 : decode cJ1_indexOfChar_4cfef 9 = .ok (.iload_n 3, 1) := by decide +kernel
theorem dJ1_indexOfChar_4cfef_10 : decode cJ1_indexOfChar_4cfef 10 = .ok (.if_icmp .ge 21, 3) := by decide +kernel
theorem dJ1_indexOfChar_4cfef_13 : decode cJ1_indexOfChar_4cfef 13 = .ok (.aload_n 0, 1) := by decide +kernel
theorem dJ1_indexOfChar_4cfef_14 : decode cJ1_indexOfChar_4cfef 14 = .ok (.iload 5, 2) := by decide +kernel
theorem dJ1_indexOfChar_4cfef_16 : decode cJ1_indexOfChar_4cfef 16 = .ok (.baload, 1) := by decide +kernel
theorem dJ1_indexOfChar_4cfef_17 : decode cJ1_indexOfChar_4cfef 17 = .ok (.iload 4, 2) := by decide +kernel
theorem dJ1_indexOfChar_4cfef_19 : decode cJ1_indexOfChar_4cfef 19 = .ok (.if_icmp .ne 6, 3) := by decide +kernel
theorem dJ1_indexOfChar_4cfef_22 : decode cJ1_indexOfChar_4cfef 22 = .ok (.iload 5, 2) := by decide +kernel
theorem dJ1_indexOfChar_4cfef_24 : decode cJ1_indexOfChar_4cfef 24 = .ok (.ireturn, 1) := by decide +kernel
theorem dJ1_indexOfChar_4cfef_25 : decode cJ1_indexOfChar_4cfef 25 = .ok (.iinc 5 1, 3) := by decide +kernel
theorem dJ1_indexOfChar_4cfef_28 : decode cJ1_indexOfChar_4cfef 28 = .ok (.goto (-21), 3) := by decide +kernel
theorem dJ1_indexOfChar_4cfef_31 : decode cJ1_indexOfChar_4cfef 31 = .ok (.iconst (-1), 1) := by decide +kernel
theorem dJ1_indexOfChar_4cfef_32 : decode cJ1_indexOfChar_4cfef 32 = .ok (.ireturn, 1) := by decide +kernel
theorem dJ3_checkIndex_8e157_0 : decode cJ3_checkIndex_8e157 0 = .ok (.iload_n 0, 1) := by decide +kernel
theorem dJ3_checkIndex_8e157_1 : decode cJ3_checkIndex_8e157 1 = .ok (.ifCond .lt 8, 3) := by decide +kernel
theorem dJ3_checkIndex_8e157_4 : decode cJ3_checkIndex_8e157 4 = .ok (.iload_n 0, 1) := by decide +kernel
theorem dJ3_checkIndex_8e157_5 : decode cJ3_checkIndex_8e157 5 = .ok (.iload_n 1, 1) := by decide +kernel
theorem dJ3_checkIndex_8e157_6 : decode cJ3_checkIndex_8e157 6 = .ok (.if_icmp .lt 10, 3) := by decide +kernel
theorem dJ3_checkIndex_8e157_16 : decode cJ3_checkIndex_8e157 16 = .ok (.iload_n 0, 1) := by decide +kernel
theorem dJ3_checkIndex_8e157_17 : decode cJ3_checkIndex_8e157 17 = .ok (.ireturn, 1) := by decide +kernel
set_option maxRecDepth 100000 in
set_option maxHeartbeats 4000000 in
theorem ggX8_signKind_J0_indexOf_0f7a4 : GoodIn wsX8_signKind wsJ0_indexOf_0f7a4 := goodIn_r _ [5, 6, 7, 8, 4, 9, 10, 11, 12, 13, 14, 15, 16, 17, 18, 19, 20, 21, 22, 23, 24, 25, 26, 27, 28, 29, 30, 31, 32, 33, 34, 35, 36, 37, 38, 39, 40, 41, 42, 43, 44, 45, 46, 47, 48, 49, 50, 51, 52, 53, 54, 55, 56, 57, 58, 59, 60, 61, 62, 63, 64, 65, 66, 67, 68, 69, 70, 71, 72, 73, 74, 75, 76, 77, 78, 79, 80, 81, 82, 83, 84, 85, 86, 87, 88, 89] (by with_unfolding_all rfl) (by decide +kernel)
set_option maxRecDepth 20000 in
theorem gX8_signKind_J0_indexOf_0f7a4 : GoodIn wsX8_signKind (wsV RX8 73 RJ0 yJ0_indexOf_0f7a4 wsJ0_indexOf_0f7a4) := goodIn_app (goodIn_of _ (by decide +kernel)) ggX8_signKind_J0_indexOf_0f7a4
set_option maxRecDepth 20000 in
theorem ggX8_wordKind_X7_byteAt : GoodIn wsX8_wordKind wsX7_byteAt := goodIn_r _ [6, 7, 8, 73, 74] (by decide +kernel) (by decide +kernel)
set_option maxRecDepth 20000 in
theorem gX8_wordKind_X7_byteAt : GoodIn wsX8_wordKind (wsV RX8 34 RX7 yX7_byteAt wsX7_byteAt) := goodIn_app (goodIn_of _ (by decide +kernel)) ggX8_wordKind_X7_byteAt
set_option maxRecDepth 100000 in
set_option maxHeartbeats 4000000 in
theorem ggX8_wordKind_X8_spells : GoodIn wsX8_wordKind wsX8_spells := goodIn_r _ [13, 1, 14, 15, 16, 17, 18, 19, 20, 21, 22, 23, 24, 25, 2, 3, 4, 5, 6, 7, 8, 26, 27, 28, 29, 30, 31, 32, 33, 34, 35, 36, 37, 38, 39, 40, 41, 42, 43, 44, 45, 46, 47, 48, 49, 50, 51, 52, 53, 54, 55, 56, 57, 58, 59, 60, 61, 62, 63, 64, 65, 66, 67, 68, 69, 70, 71, 72, 73, 74] (by with_unfolding_all rfl) (by decide +kernel)
set_option maxRecDepth 20000 in
theorem gX8_wordKind_X8_spells : GoodIn wsX8_wordKind (wsV RX8 80 RX8 yX8_spells wsX8_spells) := goodIn_app (goodIn_of _ (by decide +kernel)) ggX8_wordKind_X8_spells
set_option maxRecDepth 20000 in
theorem ggX8_spells_J0_length_8abf5 : GoodIn wsX8_spells wsJ0_length_8abf5 := goodIn_r _ [6, 7, 8, 9, 10, 5, 11, 12, 13] (by decide +kernel) (by decide +kernel)
set_option maxRecDepth 20000 in
theorem gX8_spells_J0_length_8abf5 : GoodIn wsX8_spells (wsV RX8 96 RJ0 yJ0_length_8abf5 wsJ0_length_8abf5) := goodIn_app (goodIn_of _ (by decide +kernel)) ggX8_spells_J0_length_8abf5
set_option maxRecDepth 20000 in
theorem ggX8_spells_X7_byteAt : GoodIn wsX8_spells wsX7_byteAt := goodIn_r _ [18, 19, 20, 68, 69] (by decide +kernel) (by decide +kernel)
set_option maxRecDepth 20000 in
theorem gX8_spells_X7_byteAt : GoodIn wsX8_spells (wsV RX8 34 RX7 yX7_byteAt wsX7_byteAt) := goodIn_app (goodIn_of _ (by decide +kernel)) ggX8_spells_X7_byteAt
set_option maxRecDepth 20000 in
theorem ggX8_spells_J0_charAt_5068e : GoodIn wsX8_spells wsJ0_charAt_5068e := goodIn_r _ [24, 7, 25, 26, 27, 5, 28, 12, 13, 29, 30, 31, 32, 33, 34, 35, 36, 37, 38, 39, 40, 41, 42, 43, 44, 45, 46, 47, 48, 49, 50, 51, 52, 53, 54, 55, 56, 57] (by decide +kernel) (by decide +kernel)
set_option maxRecDepth 20000 in
theorem gX8_spells_J0_charAt_5068e : GoodIn wsX8_spells (wsV RX8 99 RJ0 yJ0_charAt_5068e wsJ0_charAt_5068e) := goodIn_app (goodIn_of _ (by decide +kernel)) ggX8_spells_J0_charAt_5068e
set_option maxRecDepth 20000 in
theorem ggJ0_length_8abf5_J0_coder_7d493 : GoodIn wsJ0_length_8abf5 wsJ0_coder_7d493 := goodIn_r _ [6, 7, 8] (by decide +kernel) (by decide +kernel)
set_option maxRecDepth 20000 in
theorem gJ0_length_8abf5_J0_coder_7d493 : GoodIn wsJ0_length_8abf5 (wsV RJ0 335 RJ0 yJ0_coder_7d493 wsJ0_coder_7d493) := goodIn_app (goodIn_of _ (by decide +kernel)) ggJ0_length_8abf5_J0_coder_7d493
set_option maxRecDepth 20000 in
theorem ggJ0_charAt_5068e_J0_isLatin1_aae02 : GoodIn wsJ0_charAt_5068e wsJ0_isLatin1_aae02 := goodIn_r _ [6, 7, 8] (by decide +kernel) (by decide +kernel)
set_option maxRecDepth 20000 in
theorem gJ0_charAt_5068e_J0_isLatin1_aae02 : GoodIn wsJ0_charAt_5068e (wsV RJ0 492 RJ0 yJ0_isLatin1_aae02 wsJ0_isLatin1_aae02) := goodIn_app (goodIn_of _ (by decide +kernel)) ggJ0_charAt_5068e_J0_isLatin1_aae02
set_option maxRecDepth 20000 in
theorem ggJ0_charAt_5068e_J1_charAt_3b067 : GoodIn wsJ0_charAt_5068e wsJ1_charAt_3b067 := goodIn_r _ [12, 13, 14, 5, 15, 16, 17, 18, 19, 20] (by decide +kernel) (by decide +kernel)
set_option maxRecDepth 20000 in
theorem gJ0_charAt_5068e_J1_charAt_3b067 : GoodIn wsJ0_charAt_5068e (va_wsS RJ0 495 yJ1_charAt_3b067 wsJ1_charAt_3b067) := goodIn_app (goodIn_of _ (by decide +kernel)) ggJ0_charAt_5068e_J1_charAt_3b067
set_option maxRecDepth 100000 in
set_option maxHeartbeats 4000000 in
theorem ggJ0_indexOf_0f7a4_J0_indexOf_7cf53 : GoodIn wsJ0_indexOf_0f7a4 wsJ0_indexOf_7cf53 := goodIn_r _ [5, 6, 7, 8, 9, 4, 10, 11, 12, 13, 14, 15, 16, 17, 18, 19, 20, 21, 22, 23, 24, 25, 26, 27, 28, 29, 30, 31, 32, 33, 34, 35, 36, 37, 38, 39, 40, 41, 42, 43, 44, 45, 46, 47, 48, 49, 50, 51, 52, 53, 54, 55, 56, 57, 58, 59, 60, 61, 62, 63, 64, 65, 66, 67, 68, 69, 70, 71, 72, 73, 74, 75, 76, 77, 78, 79, 80, 81, 82, 83, 84, 85] (by with_unfolding_all rfl) (by decide +kernel)
set_option maxRecDepth 20000 in
theorem gJ0_indexOf_0f7a4_J0_indexOf_7cf53 : GoodIn wsJ0_indexOf_0f7a4 (wsV RJ0 633 RJ0 yJ0_indexOf_7cf53 wsJ0_indexOf_7cf53) := goodIn_app (goodIn_of _ (by decide +kernel)) ggJ0_indexOf_0f7a4_J0_indexOf_7cf53
set_option maxRecDepth 20000 in
theorem ggJ0_indexOf_7cf53_J0_isLatin1_aae02 : GoodIn wsJ0_indexOf_7cf53 wsJ0_isLatin1_aae02 := goodIn_r _ [6, 7, 8] (by decide +kernel) (by decide +kernel)
set_option maxRecDepth 20000 in
theorem gJ0_indexOf_7cf53_J0_isLatin1_aae02 : GoodIn wsJ0_indexOf_7cf53 (wsV RJ0 492 RJ0 yJ0_isLatin1_aae02 wsJ0_isLatin1_aae02) := goodIn_app (goodIn_of _ (by decide +kernel)) ggJ0_indexOf_7cf53_J0_isLatin1_aae02
set_option maxRecDepth 20000 in
theorem ggJ0_indexOf_7cf53_J0_length_8abf5 : GoodIn wsJ0_indexOf_7cf53 wsJ0_length_8abf5 := goodIn_r _ [12, 1, 13, 14, 15, 5, 16, 7, 8] (by decide +kernel) (by decide +kernel)
set_option maxRecDepth 20000 in
theorem gJ0_indexOf_7cf53_J0_length_8abf5 : GoodIn wsJ0_indexOf_7cf53 (wsV RJ0 505 RJ0 yJ0_length_8abf5 wsJ0_length_8abf5) := goodIn_app (goodIn_of _ (by decide +kernel)) ggJ0_indexOf_7cf53_J0_length_8abf5
set_option maxRecDepth 20000 in
theorem ggJ0_indexOf_7cf53_J1_indexOf_4cfef : GoodIn wsJ0_indexOf_7cf53 wsJ1_indexOf_4cfef := goodIn_r _ [20, 21, 22, 23, 24, 25, 26, 27, 28, 29, 19, 30, 31, 32, 33] (by decide +kernel) (by decide +kernel)
set_option maxRecDepth 20000 in
theorem gJ0_indexOf_7cf53_J1_indexOf_4cfef : GoodIn wsJ0_indexOf_7cf53 (va_wsS RJ0 637 yJ1_indexOf_4cfef wsJ1_indexOf_4cfef) := goodIn_app (goodIn_of _ (by decide +kernel)) ggJ0_indexOf_7cf53_J1_indexOf_4cfef
set_option maxRecDepth 20000 in
theorem ggJ0_checkIndex_df160_J3_checkIndex_8e157 : GoodIn wsJ0_checkIndex_df160 wsJ3_checkIndex_8e157 := goodIn_r _ [5] (by decide +kernel) (by decide +kernel)
set_option maxRecDepth 20000 in
theorem gJ0_checkIndex_df160_J3_checkIndex_8e157 : GoodIn wsJ0_checkIndex_df160 (va_wsS RJ0 1059 yJ3_checkIndex_8e157 wsJ3_checkIndex_8e157) := goodIn_app (goodIn_of _ (by decide +kernel)) ggJ0_checkIndex_df160_J3_checkIndex_8e157
set_option maxRecDepth 20000 in
theorem ggJ1_charAt_3b067_J0_checkIndex_df160 : GoodIn wsJ1_charAt_3b067 wsJ0_checkIndex_df160 := goodIn_r _ [4, 5, 6, 7, 8, 9] (by decide +kernel) (by decide +kernel)
set_option maxRecDepth 20000 in
theorem gJ1_charAt_3b067_J0_checkIndex_df160 : GoodIn wsJ1_charAt_3b067 (va_wsS RJ1 9 yJ0_checkIndex_df160 wsJ0_checkIndex_df160) := goodIn_app (goodIn_of _ (by decide +kernel)) ggJ1_charAt_3b067_J0_checkIndex_df160
set_option maxRecDepth 20000 in
theorem ggJ1_indexOf_4cfef_J1_canEncode_9a6ad : GoodIn wsJ1_indexOf_4cfef wsJ1_canEncode_9a6ad := goodIn_r _ [11] (by decide +kernel) (by decide +kernel)
set_option maxRecDepth 20000 in
theorem gJ1_indexOf_4cfef_J1_canEncode_9a6ad : GoodIn wsJ1_indexOf_4cfef (va_wsS RJ1 88 yJ1_canEncode_9a6ad wsJ1_canEncode_9a6ad) := goodIn_app (goodIn_of _ (by decide +kernel)) ggJ1_indexOf_4cfef_J1_canEncode_9a6ad
set_option maxRecDepth 20000 in
theorem ggJ1_indexOf_4cfef_J1_indexOfChar_4cfef : GoodIn wsJ1_indexOf_4cfef wsJ1_indexOfChar_4cfef := goodIn_r _ [14] (by decide +kernel) (by decide +kernel)
set_option maxRecDepth 20000 in
theorem gJ1_indexOf_4cfef_J1_indexOfChar_4cfef : GoodIn wsJ1_indexOf_4cfef (va_wsS RJ1 95 yJ1_indexOfChar_4cfef wsJ1_indexOfChar_4cfef) := goodIn_app (goodIn_of _ (by decide +kernel)) ggJ1_indexOf_4cfef_J1_indexOfChar_4cfef
set_option maxRecDepth 100000 in
set_option maxHeartbeats 4000000 in
theorem t_J0_coder_7d493 (l : Launch) (D : va_G) (cI cR cM : ClassId) (sz : Nat) {i : Nat} {adK adV : Nat → Nat} {B0 : Nat}  (hi8 : i < 8) : Met l yJ0_coder_7d493 wsJ0_coder_7d493 ({ frames := 0, cells := 0, slots := 0, locals := 0 }) (P0S D cI cR cM [.ref (adK i)] sz [] adK adV B0) (QP (fun r => (r.toInt = 0)) sz) 0 0 (va_A [] sz) := by
  refine goS (cc := cJ0_coder_7d493) (maxL := 1) (ret := (some .byte)) (by decide +kernel) rfl (Nat.le_of_ble_eq_true rfl) ?_
  intro p e s m below meth c ls args Q hQ hsz hx hb hr hml hts hown hlocks hnm hP hK hD hl hST
  subst hsz
  have hS : va_S (va_A [] s.heap.size) s.heap s.heap [] := va_S.rf
  have hA : ∀ q, s.heap.size ≤ q → va_A [] s.heap.size q := fun q h => Or.inr h
  have hAB : ∀ q, va_A [] s.heap.size q → B0 ≤ q := fun q h => by
    rcases h with ⟨k, e9, h⟩ | h
    · simp at h
    · exact Nat.le_trans hST.1 h
  have hV := hST.2.1.narrow hAB
  have hZ9 := hST.2.2.2.1.narrow hAB
  have hQ9 := hST.2.2.2.2.narrow hAB
  have hl : lv_has ls 1 [(0, .ref (adK i))] := hl
  refine va_gets hx hb hZ9 hS hown (hts (.fieldLink RJ0 38 "java/lang/String" "COMPACT_STRINGS" "Z") (by decide +kernel)) (fun _ h9 => h9) dJ0_coder_7d493_0 ?_
  refine a_if_eq (u := 1) (tgt := 13) hx hb dJ0_coder_7d493_3 (by decide) (by decide) (fun c_1 => absurd c_1 (by omega)) (fun c_1 => ?_)
  refine lv_aload_n hx hb dJ0_coder_7d493_6 rfl (lv_at hl 0 rfl) ?_
  refine vk_getf hx hb (hV.1 i hi8).2.1 hS hown (hts (.fieldLink RJ0 15 "java/lang/String" "coder" "B") (by decide +kernel)) (fun _ h9 => h9) dJ0_coder_7d493_7 ?_
  refine lv_goto (tgt := 14) hx hb dJ0_coder_7d493_10 (by decide) ?_
  have hz_2 : (0 : Int32).toInt = 0 := by decide
  exact rp_nret hx hb hr (by rfl) hlocks hS (show (0 : Int32).toInt = 0 from (by first | assumption | omega)) hQ dJ0_coder_7d493_14
set_option maxRecDepth 100000 in
set_option maxHeartbeats 4000000 in
theorem t_J0_isLatin1_aae02 (l : Launch) (D : va_G) (cI cR cM : ClassId) (sz : Nat) {i : Nat} {adK adV : Nat → Nat} {B0 : Nat}  (hi8 : i < 8) : Met l yJ0_isLatin1_aae02 wsJ0_isLatin1_aae02 ({ frames := 0, cells := 0, slots := 0, locals := 0 }) (P0S D cI cR cM [.ref (adK i)] sz [] adK adV B0) (QP (fun r => (r.toInt = 1) ∧ (r.toInt = 0 ∨ r.toInt = 1)) sz) 0 0 (va_A [] sz) := by
  refine goS (cc := cJ0_isLatin1_aae02) (maxL := 1) (ret := (some .boolean)) (by decide +kernel) rfl (Nat.le_of_ble_eq_true rfl) ?_
  intro p e s m below meth c ls args Q hQ hsz hx hb hr hml hts hown hlocks hnm hP hK hD hl hST
  subst hsz
  have hS : va_S (va_A [] s.heap.size) s.heap s.heap [] := va_S.rf
  have hA : ∀ q, s.heap.size ≤ q → va_A [] s.heap.size q := fun q h => Or.inr h
  have hAB : ∀ q, va_A [] s.heap.size q → B0 ≤ q := fun q h => by
    rcases h with ⟨k, e9, h⟩ | h
    · simp at h
    · exact Nat.le_trans hST.1 h
  have hV := hST.2.1.narrow hAB
  have hZ9 := hST.2.2.2.1.narrow hAB
  have hQ9 := hST.2.2.2.2.narrow hAB
  have hl : lv_has ls 1 [(0, .ref (adK i))] := hl
  refine va_gets hx hb hZ9 hS hown (hts (.fieldLink RJ0 38 "java/lang/String" "COMPACT_STRINGS" "Z") (by decide +kernel)) (fun _ h9 => h9) dJ0_isLatin1_aae02_0 ?_
  refine a_if_eq (u := 1) (tgt := 17) hx hb dJ0_isLatin1_aae02_3 (by decide) (by decide) (fun c_1 => absurd c_1 (by omega)) (fun c_1 => ?_)
  refine lv_aload_n hx hb dJ0_isLatin1_aae02_6 rfl (lv_at hl 0 rfl) ?_
  refine vk_getf hx hb (hV.1 i hi8).2.1 hS hown (hts (.fieldLink RJ0 15 "java/lang/String" "coder" "B") (by decide +kernel)) (fun _ h9 => h9) dJ0_isLatin1_aae02_7 ?_
  refine a_if_ne (u := 0) (tgt := 17) hx hb dJ0_isLatin1_aae02_10 (by decide) (by decide) (fun c_2 => absurd c_2 (by omega)) (fun c_2 => ?_)
  refine lv_iconst (v := 1) hx hb dJ0_isLatin1_aae02_13 (by decide) ?_
  refine lv_goto (tgt := 18) hx hb dJ0_isLatin1_aae02_14 (by decide) ?_
  have hz_3 : (1 : Int32).toInt = 1 := by decide
  exact rp_zret hx hb hr hlocks hS (by first | exact Or.inl rfl | exact Or.inr rfl) (⟨show (1 : Int32).toInt = 1 from (by first | assumption | omega), show (1 : Int32).toInt = 0 ∨ (1 : Int32).toInt = 1 from (by first | assumption | omega)⟩) hQ dJ0_isLatin1_aae02_18
set_option maxRecDepth 100000 in
set_option maxHeartbeats 4000000 in
theorem t_J0_length_8abf5 (l : Launch) (D : va_G) (cI cR cM : ClassId) (sz : Nat) {i : Nat} {adK adV : Nat → Nat} {B0 : Nat}  (hi8 : i < 8) : Met l yJ0_length_8abf5 wsJ0_length_8abf5 ({ frames := 1, cells := 0, slots := 0, locals := 20 }) (P0S D cI cR cM [.ref (adK i)] sz [] adK adV B0) (QP (fun r => (r.toInt = (lenS.getD i 0 : Nat)) ∧ (lenS.getD i 0 ≤ 11)) sz) 0 0 (va_A [] sz) := by
  refine goS (cc := cJ0_length_8abf5) (maxL := 1) (ret := (some .int)) (by decide +kernel) rfl (Nat.le_of_ble_eq_true rfl) ?_
  intro p e s m below meth c ls args Q hQ hsz hx hb hr hml hts hown hlocks hnm hP hK hD hl hST
  subst hsz
  have hS : va_S (va_A [] s.heap.size) s.heap s.heap [] := va_S.rf
  have hA : ∀ q, s.heap.size ≤ q → va_A [] s.heap.size q := fun q h => Or.inr h
  have hAB : ∀ q, va_A [] s.heap.size q → B0 ≤ q := fun q h => by
    rcases h with ⟨k, e9, h⟩ | h
    · simp at h
    · exact Nat.le_trans hST.1 h
  have hV := hST.2.1.narrow hAB
  have hZ9 := hST.2.2.2.1.narrow hAB
  have hQ9 := hST.2.2.2.2.narrow hAB
  have hl : lv_has ls 1 [(0, .ref (adK i))] := hl
  refine lv_aload_n hx hb dJ0_length_8abf5_0 rfl (lv_at hl 0 rfl) ?_
  refine vk_getf hx hb (hV.1 i hi8).2.2.1 hS hown (hts (.fieldLink RJ0 9 "java/lang/String" "value" "[B") (by decide +kernel)) (fun _ h9 => h9) dJ0_length_8abf5_1 ?_
  refine va_tlen hx hb (hV.1 i hi8).2.2.2 hS (v := nI (lenS.getD i 0)) rfl dJ0_length_8abf5_4 ?_
  refine lv_topi (fun z_1 q_1 => ?_)
  have e_1 : z_1.toInt = (lenS.getD i 0 : Nat) ∧ lenS.getD i 0 ≤ 11 := lnS hi8 q_1
  refine lv_aload_n hx hb dJ0_length_8abf5_5 rfl (lv_at hl 0 rfl) ?_
  refine roP (va_runV (As := []) (rest := [.int z_1]) ⟨hx, hb, hml, hown, hts⟩ (t_J0_coder_7d493 l D cI cR cM _  (i := i)   (by first | assumption | omega)) (cwV 0 hts gJ0_length_8abf5_J0_coder_7d493 rfl rfl rfl (by decide +kernel) ⟨Nat.le_of_ble_eq_true rfl, Nat.le_of_ble_eq_true rfl⟩) (pre_SV hK hST hS hAB hV hi8) rfl rfl hl.1 rfl (lv_room (Nat.le_of_ble_eq_true rfl)) dJ0_length_8abf5_6 ⟨Nat.le_of_ble_eq_true rfl, Nat.le_of_ble_eq_true rfl⟩) hS hA hP (fun r_2 H locs hw hP hS => ?_)
  have h_2 : (r_2.toInt = 0) := hw
  refine lv_ishr hx hb dJ0_length_8abf5_9 ?_
  refine lv_topi (fun z_3 q_3 => ?_)
  have e9 : z_3.toInt = z_1.toInt := by
    refine (shr0 (y := z_1) ?_ (by omega)).trans (by rfl)
    rw [q_3]
    have e8 : r_2 = 0 := Int32.toInt_inj.mp (by show r_2.toInt = 0; omega)
    rw [e8]
  exact rp_iret hx hb hr hlocks hS (⟨show z_3.toInt = (lenS.getD i 0 : Nat) from (by first | assumption | omega), show lenS.getD i 0 ≤ 11 from (by first | assumption | omega)⟩) hQ dJ0_length_8abf5_10
set_option maxRecDepth 100000 in
set_option maxHeartbeats 4000000 in
theorem t_J3_checkIndex_n (l : Launch) (D : va_G) (cI cR cM : ClassId) (sz : Nat) {x y : Int32}  (h0 : 0 ≤ x.toInt ∧ x.toInt < y.toInt) : Met l yJ3_checkIndex_8e157 wsJ3_checkIndex_8e157 ({ frames := 0, cells := 0, slots := 0, locals := 0 }) (P0 D cI cR cM [.int x, .int y, .null] sz []) (QP (fun r => True) sz) 0 0 (va_A [] sz) := by
  refine go (cc := cJ3_checkIndex_8e157) (maxL := 3) (ret := (some .int)) (by decide +kernel) rfl (Nat.le_of_ble_eq_true rfl) ?_
  intro p e s m below meth c ls args Q hQ hsz hx hb hr hml hts hown hlocks hnm hP hK hD hl
  subst hsz
  have hS : va_S (va_A [] s.heap.size) s.heap s.heap [] := va_S.rf
  have hA : ∀ q, s.heap.size ≤ q → va_A [] s.heap.size q := fun q h => Or.inr h
  have hl : lv_has ls 3 [(0, .int x), (1, .int y), (2, .null)] := hl
  refine lv_iload_n hx hb dJ3_checkIndex_8e157_0 rfl (lv_at hl 0 rfl) ?_
  refine a_if_lt (u := x.toInt) (tgt := 9) hx hb dJ3_checkIndex_8e157_1 (by decide) (rfl) (fun c_1 => absurd c_1 (by omega)) (fun c_1 => ?_)
  refine lv_iload_n hx hb dJ3_checkIndex_8e157_4 rfl (lv_at hl 0 rfl) ?_
  refine lv_iload_n hx hb dJ3_checkIndex_8e157_5 rfl (lv_at hl 1 rfl) ?_
  refine a_icmp_lt (u := x.toInt) (v := y.toInt) (tgt := 16) hx hb dJ3_checkIndex_8e157_6 (by decide) (rfl) (rfl) (fun c_2 => ?_) (fun c_2 => absurd c_2 (by omega))
  refine lv_iload_n hx hb dJ3_checkIndex_8e157_16 rfl (lv_at hl 0 rfl) ?_
  exact rp_iret hx hb hr hlocks hS (trivial) hQ dJ3_checkIndex_8e157_17
set_option maxRecDepth 100000 in
set_option maxHeartbeats 4000000 in
theorem t_J3_checkIndex_r (l : Launch) (D : va_G) (cI cR cM : ClassId) (sz : Nat) {x y : Int32} {t9 : Nat}  (h0 : 0 ≤ x.toInt ∧ x.toInt < y.toInt) : Met l yJ3_checkIndex_8e157 wsJ3_checkIndex_8e157 ({ frames := 0, cells := 0, slots := 0, locals := 0 }) (P0 D cI cR cM [.int x, .int y, .ref t9] sz []) (QP (fun r => True) sz) 0 0 (va_A [] sz) := by
  refine go (cc := cJ3_checkIndex_8e157) (maxL := 3) (ret := (some .int)) (by decide +kernel) rfl (Nat.le_of_ble_eq_true rfl) ?_
  intro p e s m below meth c ls args Q hQ hsz hx hb hr hml hts hown hlocks hnm hP hK hD hl
  subst hsz
  have hS : va_S (va_A [] s.heap.size) s.heap s.heap [] := va_S.rf
  have hA : ∀ q, s.heap.size ≤ q → va_A [] s.heap.size q := fun q h => Or.inr h
  have hl : lv_has ls 3 [(0, .int x), (1, .int y), (2, .ref t9)] := hl
  refine lv_iload_n hx hb dJ3_checkIndex_8e157_0 rfl (lv_at hl 0 rfl) ?_
  refine a_if_lt (u := x.toInt) (tgt := 9) hx hb dJ3_checkIndex_8e157_1 (by decide) (rfl) (fun c_1 => absurd c_1 (by omega)) (fun c_1 => ?_)
  refine lv_iload_n hx hb dJ3_checkIndex_8e157_4 rfl (lv_at hl 0 rfl) ?_
  refine lv_iload_n hx hb dJ3_checkIndex_8e157_5 rfl (lv_at hl 1 rfl) ?_
  refine a_icmp_lt (u := x.toInt) (v := y.toInt) (tgt := 16) hx hb dJ3_checkIndex_8e157_6 (by decide) (rfl) (rfl) (fun c_2 => ?_) (fun c_2 => absurd c_2 (by omega))
  refine lv_iload_n hx hb dJ3_checkIndex_8e157_16 rfl (lv_at hl 0 rfl) ?_
  exact rp_iret hx hb hr hlocks hS (trivial) hQ dJ3_checkIndex_8e157_17
set_option maxRecDepth 100000 in
set_option maxHeartbeats 4000000 in
theorem t_J0_checkIndex_df160 (l : Launch) (D : va_G) (cI cR cM : ClassId) (sz : Nat) {x y : Int32} {adK adV : Nat → Nat} {B0 : Nat}  (h0 : 0 ≤ x.toInt ∧ x.toInt < y.toInt) : Met l yJ0_checkIndex_df160 wsJ0_checkIndex_df160 ({ frames := 1, cells := 0, slots := 0, locals := 22 }) (P0S D cI cR cM [.int x, .int y] sz [] adK adV B0) (QE none sz) 0 0 (va_A [] sz) := by
  refine goS (cc := cJ0_checkIndex_df160) (maxL := 2) (ret := none) (by decide +kernel) rfl (Nat.le_of_ble_eq_true rfl) ?_
  intro p e s m below meth c ls args Q hQ hsz hx hb hr hml hts hown hlocks hnm hP hK hD hl hST
  subst hsz
  have hS : va_S (va_A [] s.heap.size) s.heap s.heap [] := va_S.rf
  have hA : ∀ q, s.heap.size ≤ q → va_A [] s.heap.size q := fun q h => Or.inr h
  have hAB : ∀ q, va_A [] s.heap.size q → B0 ≤ q := fun q h => by
    rcases h with ⟨k, e9, h⟩ | h
    · simp at h
    · exact Nat.le_trans hST.1 h
  have hV := hST.2.1.narrow hAB
  have hZ9 := hST.2.2.2.1.narrow hAB
  have hQ9 := hST.2.2.2.2.narrow hAB
  have hl : lv_has ls 2 [(0, .int x), (1, .int y)] := hl
  refine lv_iload_n hx hb dJ0_checkIndex_df160_0 rfl (lv_at hl 0 rfl) ?_
  refine lv_iload_n hx hb dJ0_checkIndex_df160_1 rfl (lv_at hl 1 rfl) ?_
  rcases hQ9 with hq_1 | ⟨t_1, hq_1⟩
  · refine va_gets hx hb hq_1 hS hown (hts (.fieldLink RJ0 1053 "jdk/internal/util/Preconditions" "SIOOBE_FORMATTER" "Ljava/util/function/BiFunction;") (by decide +kernel)) (fun _ h9 => h9) dJ0_checkIndex_df160_2 ?_
    refine roP (va_runS (As := [.int x, .int y, .null]) (rest := []) ⟨hx, hb, hml, hown, hts⟩ (t_J3_checkIndex_n l D cI cR cM _     (by first | assumption | omega)) (va_cwS 3 hts gJ0_checkIndex_df160_J3_checkIndex_8e157 rfl rfl rfl (by decide +kernel) ⟨Nat.le_of_ble_eq_true rfl, Nat.le_of_ble_eq_true rfl⟩) (pre_S hK va_P_nil (va_D_nil (A := fun _ => True))) rfl rfl hl.1 rfl (lv_room (Nat.le_of_ble_eq_true rfl)) dJ0_checkIndex_df160_5 ⟨Nat.le_of_ble_eq_true rfl, Nat.le_of_ble_eq_true rfl⟩) hS hA hP (fun r_2 H locs hw hP hS => ?_)
    refine lv_pop hx hb dJ0_checkIndex_df160_8 rfl ?_
    exact ro_vret hx hb hr hlocks hS hQ dJ0_checkIndex_df160_9
  · refine va_gets hx hb hq_1 hS hown (hts (.fieldLink RJ0 1053 "jdk/internal/util/Preconditions" "SIOOBE_FORMATTER" "Ljava/util/function/BiFunction;") (by decide +kernel)) (fun _ h9 => h9) dJ0_checkIndex_df160_2 ?_
    refine roP (va_runS (As := [.int x, .int y, .ref t_1]) (rest := []) ⟨hx, hb, hml, hown, hts⟩ (t_J3_checkIndex_r l D cI cR cM _     (by first | assumption | omega)) (va_cwS 3 hts gJ0_checkIndex_df160_J3_checkIndex_8e157 rfl rfl rfl (by decide +kernel) ⟨Nat.le_of_ble_eq_true rfl, Nat.le_of_ble_eq_true rfl⟩) (pre_S hK va_P_nil (va_D_nil (A := fun _ => True))) rfl rfl hl.1 rfl (lv_room (Nat.le_of_ble_eq_true rfl)) dJ0_checkIndex_df160_5 ⟨Nat.le_of_ble_eq_true rfl, Nat.le_of_ble_eq_true rfl⟩) hS hA hP (fun r_3 H locs hw hP hS => ?_)
    refine lv_pop hx hb dJ0_checkIndex_df160_8 rfl ?_
    exact ro_vret hx hb hr hlocks hS hQ dJ0_checkIndex_df160_9
set_option maxRecDepth 100000 in
set_option maxHeartbeats 4000000 in
theorem t_J1_charAt_3b067 (l : Launch) (D : va_G) (cI cR cM : ClassId) (sz : Nat) {x : Int32} {i : Nat} {adK adV : Nat → Nat} {B0 : Nat}  (hi8 : i < 8) (h0 : 0 ≤ x.toInt ∧ x.toInt < (lenS.getD i 0 : Nat)) : Met l yJ1_charAt_3b067 wsJ1_charAt_3b067 ({ frames := 2, cells := 0, slots := 0, locals := 43 }) (P0S D cI cR cM [.ref (adV i), .int x] sz [] adK adV B0) (QP (fun r => (narrow .char (.int r) = .int r)) sz) 0 0 (va_A [] sz) := by
  refine goS (cc := cJ1_charAt_3b067) (maxL := 2) (ret := (some .char)) (by decide +kernel) rfl (Nat.le_of_ble_eq_true rfl) ?_
  intro p e s m below meth c ls args Q hQ hsz hx hb hr hml hts hown hlocks hnm hP hK hD hl hST
  subst hsz
  have hS : va_S (va_A [] s.heap.size) s.heap s.heap [] := va_S.rf
  have hA : ∀ q, s.heap.size ≤ q → va_A [] s.heap.size q := fun q h => Or.inr h
  have hAB : ∀ q, va_A [] s.heap.size q → B0 ≤ q := fun q h => by
    rcases h with ⟨k, e9, h⟩ | h
    · simp at h
    · exact Nat.le_trans hST.1 h
  have hV := hST.2.1.narrow hAB
  have hZ9 := hST.2.2.2.1.narrow hAB
  have hQ9 := hST.2.2.2.2.narrow hAB
  have hl : lv_has ls 2 [(0, .ref (adV i)), (1, .int x)] := hl
  refine lv_iload_n hx hb dJ1_charAt_3b067_0 rfl (lv_at hl 1 rfl) ?_
  refine lv_aload_n hx hb dJ1_charAt_3b067_1 rfl (lv_at hl 0 rfl) ?_
  refine va_tlen hx hb (hV.1 i hi8).2.2.2 hS (v := nI (lenS.getD i 0)) rfl dJ1_charAt_3b067_2 ?_
  refine lv_topi (fun z_1 q_1 => ?_)
  have e_1 : z_1.toInt = (lenS.getD i 0 : Nat) ∧ lenS.getD i 0 ≤ 11 := lnS hi8 q_1
  refine ro (va_runS (As := [.int x, .int z_1]) (rest := []) ⟨hx, hb, hml, hown, hts⟩ (t_J0_checkIndex_df160 l D cI cR cM _     (by first | assumption | omega)) (va_cwS 2 hts gJ1_charAt_3b067_J0_checkIndex_df160 rfl rfl rfl (by decide +kernel) ⟨Nat.le_of_ble_eq_true rfl, Nat.le_of_ble_eq_true rfl⟩) (pre_SS hK hST hS hAB va_P_nil (va_D_nil (A := fun _ => True))) rfl rfl hl.1 rfl (lv_room (Nat.le_of_ble_eq_true rfl)) dJ1_charAt_3b067_3 ⟨Nat.le_of_ble_eq_true rfl, Nat.le_of_ble_eq_true rfl⟩) hS hA hP (fun H locs hP hS => ?_)
  refine lv_aload_n hx hb dJ1_charAt_3b067_6 rfl (lv_at hl 0 rfl) ?_
  refine lv_iload_n hx hb dJ1_charAt_3b067_7 rfl (lv_at hl 1 rfl) ?_
  refine va_tb hx hb (hV.1 i hi8).2.2.2 hS (i_in (a := x.toInt) (rfl) (by omega) (by omega)) rfl dJ1_charAt_3b067_8 ?_
  refine lv_topi (fun z_3 q_3 => ?_)
  refine lv_sipush (v := 255) hx hb dJ1_charAt_3b067_9 (by decide) ?_
  refine lv_iand hx hb dJ1_charAt_3b067_12 ?_
  refine lv_topi (fun z_4 q_4 => ?_)
  refine lv_i2c hx hb dJ1_charAt_3b067_13 rfl ?_
  refine lv_topi (fun z_5 q_5 => ?_)
  exact rp_nret hx hb hr (by rw [q_5]; exact pk_nc _) hlocks hS (show narrow .char (.int z_5) = .int z_5 from (by rw [q_5]; exact pk_nc _)) hQ dJ1_charAt_3b067_14
set_option maxRecDepth 100000 in
set_option maxHeartbeats 4000000 in
theorem t_J0_charAt_5068e (l : Launch) (D : va_G) (cI cR cM : ClassId) (sz : Nat) {x : Int32} {i : Nat} {adK adV : Nat → Nat} {B0 : Nat}  (hi8 : i < 8) (h0 : 0 ≤ x.toInt ∧ x.toInt < (lenS.getD i 0 : Nat)) : Met l yJ0_charAt_5068e wsJ0_charAt_5068e ({ frames := 3, cells := 0, slots := 0, locals := 64 }) (P0S D cI cR cM [.ref (adK i), .int x] sz [] adK adV B0) (QP (fun r => (narrow .char (.int r) = .int r)) sz) 0 0 (va_A [] sz) := by
  refine goS (cc := cJ0_charAt_5068e) (maxL := 2) (ret := (some .char)) (by decide +kernel) rfl (Nat.le_of_ble_eq_true rfl) ?_
  intro p e s m below meth c ls args Q hQ hsz hx hb hr hml hts hown hlocks hnm hP hK hD hl hST
  subst hsz
  have hS : va_S (va_A [] s.heap.size) s.heap s.heap [] := va_S.rf
  have hA : ∀ q, s.heap.size ≤ q → va_A [] s.heap.size q := fun q h => Or.inr h
  have hAB : ∀ q, va_A [] s.heap.size q → B0 ≤ q := fun q h => by
    rcases h with ⟨k, e9, h⟩ | h
    · simp at h
    · exact Nat.le_trans hST.1 h
  have hV := hST.2.1.narrow hAB
  have hZ9 := hST.2.2.2.1.narrow hAB
  have hQ9 := hST.2.2.2.2.narrow hAB
  have hl : lv_has ls 2 [(0, .ref (adK i)), (1, .int x)] := hl
  refine lv_aload_n hx hb dJ0_charAt_5068e_0 rfl (lv_at hl 0 rfl) ?_
  refine roP (va_runV (As := []) (rest := []) ⟨hx, hb, hml, hown, hts⟩ (t_J0_isLatin1_aae02 l D cI cR cM _  (i := i)   (by first | assumption | omega)) (cwV 0 hts gJ0_charAt_5068e_J0_isLatin1_aae02 rfl rfl rfl (by decide +kernel) ⟨Nat.le_of_ble_eq_true rfl, Nat.le_of_ble_eq_true rfl⟩) (pre_SV hK hST hS hAB hV hi8) rfl rfl hl.1 rfl (lv_room (Nat.le_of_ble_eq_true rfl)) dJ0_charAt_5068e_1 ⟨Nat.le_of_ble_eq_true rfl, Nat.le_of_ble_eq_true rfl⟩) hS hA hP (fun r_1 H locs hw hP hS => ?_)
  obtain ⟨h_1, h01_1⟩ : (r_1.toInt = 1) ∧ (r_1.toInt = 0 ∨ r_1.toInt = 1) := hw
  refine a_if_eq (u := r_1.toInt) (tgt := 16) hx hb dJ0_charAt_5068e_4 (by decide) (rfl) (fun c_2 => absurd c_2 (by omega)) (fun c_2 => ?_)
  refine lv_aload_n hx hb dJ0_charAt_5068e_7 rfl (lv_at hl 0 rfl) ?_
  refine vk_getf hx hb (hV.1 i hi8).2.2.1 hS hown (hts (.fieldLink RJ0 9 "java/lang/String" "value" "[B") (by decide +kernel)) (fun _ h9 => h9) dJ0_charAt_5068e_8 ?_
  refine lv_iload_n hx hb dJ0_charAt_5068e_11 rfl (lv_at hl 1 rfl) ?_
  refine roP (va_runS (As := [.ref (adV i), .int x]) (rest := []) ⟨hx, hb, hml, hown, hts⟩ (t_J1_charAt_3b067 l D cI cR cM _  (i := i)   (by first | assumption | omega) (by first | assumption | omega)) (va_cwS 2 hts gJ0_charAt_5068e_J1_charAt_3b067 rfl rfl rfl (by decide +kernel) ⟨Nat.le_of_ble_eq_true rfl, Nat.le_of_ble_eq_true rfl⟩) (pre_SS hK hST hS hAB va_P_nil (va_D_nil (A := fun _ => True))) rfl rfl hl.1 rfl (lv_room (Nat.le_of_ble_eq_true rfl)) dJ0_charAt_5068e_12 ⟨Nat.le_of_ble_eq_true rfl, Nat.le_of_ble_eq_true rfl⟩) hS hA hP (fun r_3 H locs hw hP hS => ?_)
  have hn_3 : (narrow .char (.int r_3) = .int r_3) := hw
  exact rp_nret hx hb hr (hn_3) hlocks hS (show narrow .char (.int r_3) = .int r_3 from (by first | assumption | omega)) hQ dJ0_charAt_5068e_15
set_option maxRecDepth 100000 in
set_option maxHeartbeats 4000000 in
theorem t_J1_canEncode_9a6ad (l : Launch) (D : va_G) (cI cR cM : ClassId) (sz : Nat) {x : Int32}   : Met l yJ1_canEncode_9a6ad wsJ1_canEncode_9a6ad ({ frames := 0, cells := 0, slots := 0, locals := 0 }) (P0 D cI cR cM [.int x] sz []) (QP (fun r => (r.toInt = 0 ∨ r.toInt = 1)) sz) 0 0 (va_A [] sz) := by
  refine go (cc := cJ1_canEncode_9a6ad) (maxL := 1) (ret := (some .boolean)) (by decide +kernel) rfl (Nat.le_of_ble_eq_true rfl) ?_
  intro p e s m below meth c ls args Q hQ hsz hx hb hr hml hts hown hlocks hnm hP hK hD hl
  subst hsz
  have hS : va_S (va_A [] s.heap.size) s.heap s.heap [] := va_S.rf
  have hA : ∀ q, s.heap.size ≤ q → va_A [] s.heap.size q := fun q h => Or.inr h
  have hl : lv_has ls 1 [(0, .int x)] := hl
  refine lv_iload_n hx hb dJ1_canEncode_9a6ad_0 rfl (lv_at hl 0 rfl) ?_
  refine a_if_lt (u := x.toInt) (tgt := 15) hx hb dJ1_canEncode_9a6ad_1 (by decide) (rfl) (fun c_1 => ?_) (fun c_1 => ?_)
  · refine lv_iconst (v := 0) hx hb dJ1_canEncode_9a6ad_15 (by decide) ?_
    have hz_2 : (0 : Int32).toInt = 0 := by decide
    exact rp_zret hx hb hr hlocks hS (by first | exact Or.inl rfl | exact Or.inr rfl) (show (0 : Int32).toInt = 0 ∨ (0 : Int32).toInt = 1 from (by first | assumption | omega)) hQ dJ1_canEncode_9a6ad_16
  · refine lv_iload_n hx hb dJ1_canEncode_9a6ad_4 rfl (lv_at hl 0 rfl) ?_
    refine lv_sipush (v := 255) hx hb dJ1_canEncode_9a6ad_5 (by decide) ?_
    refine a_icmp_gt (u := x.toInt) (v := 255) (tgt := 15) hx hb dJ1_canEncode_9a6ad_8 (by decide) (rfl) (by decide) (fun c_3 => ?_) (fun c_3 => ?_)
    · refine lv_iconst (v := 0) hx hb dJ1_canEncode_9a6ad_15 (by decide) ?_
      have hz_4 : (0 : Int32).toInt = 0 := by decide
      exact rp_zret hx hb hr hlocks hS (by first | exact Or.inl rfl | exact Or.inr rfl) (show (0 : Int32).toInt = 0 ∨ (0 : Int32).toInt = 1 from (by first | assumption | omega)) hQ dJ1_canEncode_9a6ad_16
    · refine lv_iconst (v := 1) hx hb dJ1_canEncode_9a6ad_11 (by decide) ?_
      refine lv_goto (tgt := 16) hx hb dJ1_canEncode_9a6ad_12 (by decide) ?_
      have hz_5 : (1 : Int32).toInt = 1 := by decide
      exact rp_zret hx hb hr hlocks hS (by first | exact Or.inl rfl | exact Or.inr rfl) (show (1 : Int32).toInt = 0 ∨ (1 : Int32).toInt = 1 from (by first | assumption | omega)) hQ dJ1_canEncode_9a6ad_16
set_option maxRecDepth 100000 in
set_option maxHeartbeats 4000000 in
theorem t_J1_indexOfChar_4cfef (l : Launch) (D : va_G) (cI cR cM : ClassId) (sz : Nat) {x y v : Int32} {adK adV : Nat → Nat} {B0 : Nat}  (h0 : 0 ≤ y.toInt ∧ v.toInt ≤ 11) : Met l yJ1_indexOfChar_4cfef wsJ1_indexOfChar_4cfef ({ frames := 0, cells := 0, slots := 0, locals := 0 }) (P0S D cI cR cM [.ref (adV 7), .int x, .int y, .int v] sz [] adK adV B0) (QP (fun r => (0 ≤ r.toInt → x.toInt ≠ 2)) sz) 0 0 (va_A [] sz) := by
  refine goS (cc := cJ1_indexOfChar_4cfef) (maxL := 6) (ret := (some .int)) (by decide +kernel) rfl (Nat.le_of_ble_eq_true rfl) ?_
  intro p e s m below meth c ls args Q hQ hsz hx hb hr hml hts hown hlocks hnm hP hK hD hl hST
  subst hsz
  have hS : va_S (va_A [] s.heap.size) s.heap s.heap [] := va_S.rf
  have hA : ∀ q, s.heap.size ≤ q → va_A [] s.heap.size q := fun q h => Or.inr h
  have hAB : ∀ q, va_A [] s.heap.size q → B0 ≤ q := fun q h => by
    rcases h with ⟨k, e9, h⟩ | h
    · simp at h
    · exact Nat.le_trans hST.1 h
  have hV := hST.2.1.narrow hAB
  have hZ9 := hST.2.2.2.1.narrow hAB
  have hQ9 := hST.2.2.2.2.narrow hAB
  have hl : lv_has ls 6 [(0, .ref (adV 7)), (1, .int x), (2, .int y), (3, .int v)] := hl
  have hl7 : lenS.getD 7 0 = 11 := by decide
  refine lv_iload_n hx hb dJ1_indexOfChar_4cfef_0 rfl (lv_at hl 1 rfl) ?_
  refine lv_i2b hx hb dJ1_indexOfChar_4cfef_1 rfl ?_
  refine lv_topi (fun z_1 q_1 => ?_)
  have e2_1 := i2b2 q_1
  refine lv_istore (lv' := [(4, .int z_1), (0, .ref (adV 7)), (1, .int x), (2, .int y), (3, .int v)]) hx hb dJ1_indexOfChar_4cfef_2 hl (by decide) rfl (fun ls hl => ?_)
  refine lv_iload_n hx hb dJ1_indexOfChar_4cfef_4 rfl (lv_at hl 3 rfl) ?_
  refine lv_istore (lv' := [(5, .int y), (4, .int z_1), (0, .ref (adV 7)), (1, .int x), (2, .int y), (3, .int v)]) hx hb dJ1_indexOfChar_4cfef_5 hl (by decide) rfl (fun ls hl => ?_)
  have loop7 : ∀ (ddloop7 : Nat) (ii : Int32) (H : Heap) (locs : List Loc) (ls : Array Slot), (v.toInt - ii.toInt).toNat < ddloop7 → (0 ≤ ii.toInt ∧ ii.toInt ≤ 11 ∨ ii.toInt = y.toInt) → va_P D vwCl [] H → va_S (va_A [] s.heap.size) s.heap H locs → lv_has ls 6 [(0, .ref (adV 7)), (1, .int x), (2, .int y), (3, .int v), (4, .int z_1), (5, .int ii)] → W p l e ({ frames := 0, cells := 0, slots := 0, locals := 0 }) s m args below meth c H locs (0) (0) Q (F0 m 7 ls []) := by
    intro ddloop7
    induction ddloop7 with
    | zero =>
      intro ii H locs ls hdd
      exact absurd hdd (Nat.not_lt_zero _)
    | succ ddloop7 ih7 =>
      intro ii H locs ls hdd hi hP hS hl
      refine lv_iload hx hb dJ1_indexOfChar_4cfef_7 (lv_at hl 5 rfl) ?_
      refine lv_iload_n hx hb dJ1_indexOfChar_4cfef_9 rfl (lv_at hl 3 rfl) ?_
      refine a_icmp_ge (u := ii.toInt) (v := v.toInt) (tgt := 31) hx hb dJ1_indexOfChar_4cfef_10 (by decide) (rfl) (rfl) (fun c_3 => ?_) (fun c_3 => ?_)
      · refine lv_iconst (v := (-1)) hx hb dJ1_indexOfChar_4cfef_31 (by decide) ?_
        have hz_4 : (-1 : Int32).toInt = (-1) := by decide
        exact rp_iret hx hb hr hlocks hS (show 0 ≤ (-1 : Int32).toInt → x.toInt ≠ 2 from (by first | assumption | omega)) hQ dJ1_indexOfChar_4cfef_32
      · refine lv_aload_n hx hb dJ1_indexOfChar_4cfef_13 rfl (lv_at hl 0 rfl) ?_
        refine lv_iload hx hb dJ1_indexOfChar_4cfef_14 (lv_at hl 5 rfl) ?_
        refine va_tb hx hb (hV.1 7 (by decide)).2.2.2 hS (i_in (a := ii.toInt) (rfl) (by omega) (by omega)) rfl dJ1_indexOfChar_4cfef_16 ?_
        refine lv_topi (fun z_5 q_5 => ?_)
        have s4_5 := sg40 (j := ii.toInt) (by omega) q_5
        refine lv_iload hx hb dJ1_indexOfChar_4cfef_17 (lv_at hl 4 rfl) ?_
        refine a_icmp_ne (u := z_5.toInt) (v := z_1.toInt) (tgt := 25) hx hb dJ1_indexOfChar_4cfef_19 (by decide) (rfl) (rfl) (fun c_6 => ?_) (fun c_6 => ?_)
        · obtain ⟨z_7, q_7, e_7⟩ := i_inc (a := ii.toInt) (1) (rfl) (by decide) (by omega) (by omega)
          refine lv_iinc (v := z_7) (lv' := [(5, .int z_7), (0, .ref (adV 7)), (1, .int x), (2, .int y), (3, .int v), (4, .int z_1)]) hx hb dJ1_indexOfChar_4cfef_25 hl (k := 5) rfl q_7 (by decide) rfl (fun ls hl => ?_)
          refine lv_goto (tgt := 7) hx hb dJ1_indexOfChar_4cfef_28 (by decide) ?_
          exact ih7 z_7 _ _ _ (by omega) (by first | assumption | omega) hP hS (lv_sub hl [1, 2, 3, 4, 5, 0] rfl)
        · refine lv_iload hx hb dJ1_indexOfChar_4cfef_22 (lv_at hl 5 rfl) ?_
          exact rp_iret hx hb hr hlocks hS (show 0 ≤ ii.toInt → x.toInt ≠ 2 from (by first | assumption | omega)) hQ dJ1_indexOfChar_4cfef_24
  exact loop7 ((v.toInt - y.toInt).toNat + 1) y _ _ _ (by omega) (by first | assumption | omega) hP hS (lv_sub hl [2, 3, 4, 5, 1, 0] rfl)
set_option maxRecDepth 100000 in
set_option maxHeartbeats 4000000 in
theorem t_J1_indexOf_4cfef (l : Launch) (D : va_G) (cI cR cM : ClassId) (sz : Nat) {x y v : Int32} {adK adV : Nat → Nat} {B0 : Nat}  (h0 : y.toInt = 0 ∧ v.toInt = 11) : Met l yJ1_indexOf_4cfef wsJ1_indexOf_4cfef ({ frames := 1, cells := 0, slots := 0, locals := 25 }) (P0S D cI cR cM [.ref (adV 7), .int x, .int y, .int v] sz [] adK adV B0) (QP (fun r => (0 ≤ r.toInt → x.toInt ≠ 2)) sz) 0 0 (va_A [] sz) := by
  refine goS (cc := cJ1_indexOf_4cfef) (maxL := 4) (ret := (some .int)) (by decide +kernel) rfl (Nat.le_of_ble_eq_true rfl) ?_
  intro p e s m below meth c ls args Q hQ hsz hx hb hr hml hts hown hlocks hnm hP hK hD hl hST
  subst hsz
  have hS : va_S (va_A [] s.heap.size) s.heap s.heap [] := va_S.rf
  have hA : ∀ q, s.heap.size ≤ q → va_A [] s.heap.size q := fun q h => Or.inr h
  have hAB : ∀ q, va_A [] s.heap.size q → B0 ≤ q := fun q h => by
    rcases h with ⟨k, e9, h⟩ | h
    · simp at h
    · exact Nat.le_trans hST.1 h
  have hV := hST.2.1.narrow hAB
  have hZ9 := hST.2.2.2.1.narrow hAB
  have hQ9 := hST.2.2.2.2.narrow hAB
  have hl : lv_has ls 4 [(0, .ref (adV 7)), (1, .int x), (2, .int y), (3, .int v)] := hl
  have hl7 : lenS.getD 7 0 = 11 := by decide
  refine lv_iload_n hx hb dJ1_indexOf_4cfef_0 rfl (lv_at hl 1 rfl) ?_
  refine roP (va_runS (As := [.int x]) (rest := []) ⟨hx, hb, hml, hown, hts⟩ (t_J1_canEncode_9a6ad l D cI cR cM _     ) (va_cwS 1 hts gJ1_indexOf_4cfef_J1_canEncode_9a6ad rfl rfl rfl (by decide +kernel) ⟨Nat.le_of_ble_eq_true rfl, Nat.le_of_ble_eq_true rfl⟩) (pre_S hK va_P_nil (va_D_nil (A := fun _ => True))) rfl rfl hl.1 rfl (lv_room (Nat.le_of_ble_eq_true rfl)) dJ1_indexOf_4cfef_1 ⟨Nat.le_of_ble_eq_true rfl, Nat.le_of_ble_eq_true rfl⟩) hS hA hP (fun r_1 H locs hw hP hS => ?_)
  have h01_1 : (r_1.toInt = 0 ∨ r_1.toInt = 1) := hw
  refine a_if_ne (u := r_1.toInt) (tgt := 9) hx hb dJ1_indexOf_4cfef_4 (by decide) (rfl) (fun c_2 => ?_) (fun c_2 => ?_)
  · refine lv_iload_n hx hb dJ1_indexOf_4cfef_9 rfl (lv_at hl 2 rfl) ?_
    refine lv_iconst (v := 0) hx hb dJ1_indexOf_4cfef_10 (by decide) ?_
    refine va_mmax hx hb (by rw [hml]; exact hl.1.symm) hown (hts (.methodLink RJ1 92 Lib.Math.max.name) (by decide +kernel)) (hts (.static Lib.Math.max.name) (by decide +kernel)) (hts (.initialized "java/lang/Math") (by decide +kernel)) (hts (.code Lib.Math.max.name Lib.Math.max.code 2 (some .int)) (by decide +kernel)) (Nat.le_of_ble_eq_true rfl) (Nat.le_of_ble_eq_true rfl) (Nat.le_of_ble_eq_true rfl) (Nat.le_of_ble_eq_true rfl) dJ1_indexOf_4cfef_11 ?_
    refine lv_topi (fun z_3 q_3 => ?_)
    obtain ⟨e1_3, e2_3, e3_3⟩ := i_max (u := y.toInt) (v := 0) (rfl) (by decide) q_3
    refine lv_istore_n (lv' := [(2, .int z_3), (0, .ref (adV 7)), (1, .int x), (3, .int v)]) hx hb dJ1_indexOf_4cfef_14 rfl hl (by decide) rfl (fun ls hl => ?_)
    refine lv_iload_n hx hb dJ1_indexOf_4cfef_15 rfl (lv_at hl 3 rfl) ?_
    refine lv_aload_n hx hb dJ1_indexOf_4cfef_16 rfl (lv_at hl 1 rfl) ?_
    refine va_tlen hx hb (hV.1 7 (by decide)).2.2.2 hS (v := nI (lenS.getD 7 0)) rfl dJ1_indexOf_4cfef_17 ?_
    refine lv_topi (fun z_4 q_4 => ?_)
    have e_4 : z_4.toInt = (lenS.getD 7 0 : Nat) ∧ lenS.getD 7 0 ≤ 11 := lnS (by decide) q_4
    refine va_mmin hx hb (by rw [hml]; exact hl.1.symm) hown (hts (.methodLink RJ1 38 Lib.Math.min.name) (by decide +kernel)) (hts (.static Lib.Math.min.name) (by decide +kernel)) (hts (.initialized "java/lang/Math") (by decide +kernel)) (hts (.code Lib.Math.min.name Lib.Math.min.code 2 (some .int)) (by decide +kernel)) (Nat.le_of_ble_eq_true rfl) (Nat.le_of_ble_eq_true rfl) (Nat.le_of_ble_eq_true rfl) (Nat.le_of_ble_eq_true rfl) dJ1_indexOf_4cfef_18 ?_
    refine lv_topi (fun z_5 q_5 => ?_)
    obtain ⟨e1_5, e2_5, e3_5⟩ := i_min (u := v.toInt) (v := z_4.toInt) (rfl) (rfl) q_5
    refine lv_istore_n (lv' := [(3, .int z_5), (2, .int z_3), (0, .ref (adV 7)), (1, .int x)]) hx hb dJ1_indexOf_4cfef_21 rfl hl (by decide) rfl (fun ls hl => ?_)
    refine lv_iload_n hx hb dJ1_indexOf_4cfef_22 rfl (lv_at hl 1 rfl) ?_
    refine lv_iload_n hx hb dJ1_indexOf_4cfef_23 rfl (lv_at hl 0 rfl) ?_
    refine a_icmp_lt (u := z_3.toInt) (v := z_5.toInt) (tgt := 29) hx hb dJ1_indexOf_4cfef_24 (by decide) (rfl) (rfl) (fun c_6 => ?_) (fun c_6 => ?_)
    · refine lv_aload_n hx hb dJ1_indexOf_4cfef_29 rfl (lv_at hl 2 rfl) ?_
      refine lv_iload_n hx hb dJ1_indexOf_4cfef_30 rfl (lv_at hl 3 rfl) ?_
      refine lv_iload_n hx hb dJ1_indexOf_4cfef_31 rfl (lv_at hl 1 rfl) ?_
      refine lv_iload_n hx hb dJ1_indexOf_4cfef_32 rfl (lv_at hl 0 rfl) ?_
      refine roP (va_runS (As := [.ref (adV 7), .int x, .int z_3, .int z_5]) (rest := []) ⟨hx, hb, hml, hown, hts⟩ (t_J1_indexOfChar_4cfef l D cI cR cM _     (by first | assumption | omega)) (va_cwS 4 hts gJ1_indexOf_4cfef_J1_indexOfChar_4cfef rfl rfl rfl (by decide +kernel) ⟨Nat.le_of_ble_eq_true rfl, Nat.le_of_ble_eq_true rfl⟩) (pre_SS hK hST hS hAB va_P_nil (va_D_nil (A := fun _ => True))) rfl rfl hl.1 rfl (lv_room (Nat.le_of_ble_eq_true rfl)) dJ1_indexOf_4cfef_33 ⟨Nat.le_of_ble_eq_true rfl, Nat.le_of_ble_eq_true rfl⟩) hS hA hP (fun r_7 H locs hw hP hS => ?_)
      have h2_7 : (0 ≤ r_7.toInt → x.toInt ≠ 2) := hw
      exact rp_iret hx hb hr hlocks hS (show 0 ≤ r_7.toInt → x.toInt ≠ 2 from (by first | assumption | omega)) hQ dJ1_indexOf_4cfef_36
    · refine lv_iconst (v := (-1)) hx hb dJ1_indexOf_4cfef_27 (by decide) ?_
      have hz_8 : (-1 : Int32).toInt = (-1) := by decide
      exact rp_iret hx hb hr hlocks hS (show 0 ≤ (-1 : Int32).toInt → x.toInt ≠ 2 from (by first | assumption | omega)) hQ dJ1_indexOf_4cfef_28
  · refine lv_iconst (v := (-1)) hx hb dJ1_indexOf_4cfef_7 (by decide) ?_
    have hz_9 : (-1 : Int32).toInt = (-1) := by decide
    exact rp_iret hx hb hr hlocks hS (show 0 ≤ (-1 : Int32).toInt → x.toInt ≠ 2 from (by first | assumption | omega)) hQ dJ1_indexOf_4cfef_8
set_option maxRecDepth 100000 in
set_option maxHeartbeats 4000000 in
theorem t_J0_indexOf_7cf53 (l : Launch) (D : va_G) (cI cR cM : ClassId) (sz : Nat) {x y : Int32} {adK adV : Nat → Nat} {B0 : Nat}  (h0 : y.toInt = 0) : Met l yJ0_indexOf_7cf53 wsJ0_indexOf_7cf53 ({ frames := 2, cells := 0, slots := 0, locals := 48 }) (P0S D cI cR cM [.ref (adK 7), .int x, .int y] sz [] adK adV B0) (QP (fun r => (0 ≤ r.toInt → x.toInt ≠ 2)) sz) 0 0 (va_A [] sz) := by
  refine goS (cc := cJ0_indexOf_7cf53) (maxL := 3) (ret := (some .int)) (by decide +kernel) rfl (Nat.le_of_ble_eq_true rfl) ?_
  intro p e s m below meth c ls args Q hQ hsz hx hb hr hml hts hown hlocks hnm hP hK hD hl hST
  subst hsz
  have hS : va_S (va_A [] s.heap.size) s.heap s.heap [] := va_S.rf
  have hA : ∀ q, s.heap.size ≤ q → va_A [] s.heap.size q := fun q h => Or.inr h
  have hAB : ∀ q, va_A [] s.heap.size q → B0 ≤ q := fun q h => by
    rcases h with ⟨k, e9, h⟩ | h
    · simp at h
    · exact Nat.le_trans hST.1 h
  have hV := hST.2.1.narrow hAB
  have hZ9 := hST.2.2.2.1.narrow hAB
  have hQ9 := hST.2.2.2.2.narrow hAB
  have hl : lv_has ls 3 [(0, .ref (adK 7)), (1, .int x), (2, .int y)] := hl
  have hl7 : lenS.getD 7 0 = 11 := by decide
  refine lv_aload_n hx hb dJ0_indexOf_7cf53_0 rfl (lv_at hl 0 rfl) ?_
  refine roP (va_runV (As := []) (rest := []) ⟨hx, hb, hml, hown, hts⟩ (t_J0_isLatin1_aae02 l D cI cR cM _  (i := 7)   (by first | assumption | omega)) (cwV 0 hts gJ0_indexOf_7cf53_J0_isLatin1_aae02 rfl rfl rfl (by decide +kernel) ⟨Nat.le_of_ble_eq_true rfl, Nat.le_of_ble_eq_true rfl⟩) (pre_SV hK hST hS hAB hV (by decide)) rfl rfl hl.1 rfl (lv_room (Nat.le_of_ble_eq_true rfl)) dJ0_indexOf_7cf53_1 ⟨Nat.le_of_ble_eq_true rfl, Nat.le_of_ble_eq_true rfl⟩) hS hA hP (fun r_1 H locs hw hP hS => ?_)
  obtain ⟨h_1, h01_1⟩ : (r_1.toInt = 1) ∧ (r_1.toInt = 0 ∨ r_1.toInt = 1) := hw
  refine a_if_eq (u := r_1.toInt) (tgt := 23) hx hb dJ0_indexOf_7cf53_4 (by decide) (rfl) (fun c_2 => absurd c_2 (by omega)) (fun c_2 => ?_)
  refine lv_aload_n hx hb dJ0_indexOf_7cf53_7 rfl (lv_at hl 0 rfl) ?_
  refine vk_getf hx hb (hV.1 7 (by decide)).2.2.1 hS hown (hts (.fieldLink RJ0 9 "java/lang/String" "value" "[B") (by decide +kernel)) (fun _ h9 => h9) dJ0_indexOf_7cf53_8 ?_
  refine lv_iload_n hx hb dJ0_indexOf_7cf53_11 rfl (lv_at hl 1 rfl) ?_
  refine lv_iload_n hx hb dJ0_indexOf_7cf53_12 rfl (lv_at hl 2 rfl) ?_
  refine lv_aload_n hx hb dJ0_indexOf_7cf53_13 rfl (lv_at hl 0 rfl) ?_
  refine roP (va_runV (As := []) (rest := [.int y, .int x, .ref (adV 7)]) ⟨hx, hb, hml, hown, hts⟩ (t_J0_length_8abf5 l D cI cR cM _  (i := 7)   (by first | assumption | omega)) (cwV 0 hts gJ0_indexOf_7cf53_J0_length_8abf5 rfl rfl rfl (by decide +kernel) ⟨Nat.le_of_ble_eq_true rfl, Nat.le_of_ble_eq_true rfl⟩) (pre_SV hK hST hS hAB hV (by decide)) rfl rfl hl.1 rfl (lv_room (Nat.le_of_ble_eq_true rfl)) dJ0_indexOf_7cf53_14 ⟨Nat.le_of_ble_eq_true rfl, Nat.le_of_ble_eq_true rfl⟩) hS hA hP (fun r_3 H locs hw hP hS => ?_)
  obtain ⟨h_3, h11_3⟩ : (r_3.toInt = (lenS.getD 7 0 : Nat)) ∧ (lenS.getD 7 0 ≤ 11) := hw
  refine roP (va_runS (As := [.ref (adV 7), .int x, .int y, .int r_3]) (rest := []) ⟨hx, hb, hml, hown, hts⟩ (t_J1_indexOf_4cfef l D cI cR cM _     (by first | assumption | omega)) (va_cwS 4 hts gJ0_indexOf_7cf53_J1_indexOf_4cfef rfl rfl rfl (by decide +kernel) ⟨Nat.le_of_ble_eq_true rfl, Nat.le_of_ble_eq_true rfl⟩) (pre_SS hK hST hS hAB va_P_nil (va_D_nil (A := fun _ => True))) rfl rfl hl.1 rfl (lv_room (Nat.le_of_ble_eq_true rfl)) dJ0_indexOf_7cf53_17 ⟨Nat.le_of_ble_eq_true rfl, Nat.le_of_ble_eq_true rfl⟩) hS hA hP (fun r_4 H locs hw hP hS => ?_)
  have h2_4 : (0 ≤ r_4.toInt → x.toInt ≠ 2) := hw
  refine lv_goto (tgt := 36) hx hb dJ0_indexOf_7cf53_20 (by decide) ?_
  exact rp_iret hx hb hr hlocks hS (show 0 ≤ r_4.toInt → x.toInt ≠ 2 from (by first | assumption | omega)) hQ dJ0_indexOf_7cf53_36
set_option maxRecDepth 100000 in
set_option maxHeartbeats 4000000 in
theorem t_J0_indexOf_0f7a4 (l : Launch) (D : va_G) (cI cR cM : ClassId) (sz : Nat) {x : Int32} {adK adV : Nat → Nat} {B0 : Nat}   : Met l yJ0_indexOf_0f7a4 wsJ0_indexOf_0f7a4 ({ frames := 3, cells := 0, slots := 0, locals := 70 }) (P0S D cI cR cM [.ref (adK 7), .int x] sz [] adK adV B0) (QP (fun r => (0 ≤ r.toInt → x.toInt ≠ 2)) sz) 0 0 (va_A [] sz) := by
  refine goS (cc := cJ0_indexOf_0f7a4) (maxL := 2) (ret := (some .int)) (by decide +kernel) rfl (Nat.le_of_ble_eq_true rfl) ?_
  intro p e s m below meth c ls args Q hQ hsz hx hb hr hml hts hown hlocks hnm hP hK hD hl hST
  subst hsz
  have hS : va_S (va_A [] s.heap.size) s.heap s.heap [] := va_S.rf
  have hA : ∀ q, s.heap.size ≤ q → va_A [] s.heap.size q := fun q h => Or.inr h
  have hAB : ∀ q, va_A [] s.heap.size q → B0 ≤ q := fun q h => by
    rcases h with ⟨k, e9, h⟩ | h
    · simp at h
    · exact Nat.le_trans hST.1 h
  have hV := hST.2.1.narrow hAB
  have hZ9 := hST.2.2.2.1.narrow hAB
  have hQ9 := hST.2.2.2.2.narrow hAB
  have hl : lv_has ls 2 [(0, .ref (adK 7)), (1, .int x)] := hl
  refine lv_aload_n hx hb dJ0_indexOf_0f7a4_0 rfl (lv_at hl 0 rfl) ?_
  refine lv_iload_n hx hb dJ0_indexOf_0f7a4_1 rfl (lv_at hl 1 rfl) ?_
  refine lv_iconst (v := 0) hx hb dJ0_indexOf_0f7a4_2 (by decide) ?_
  have hz_1 : (0 : Int32).toInt = 0 := by decide
  refine roP (va_runV (As := [.int x, .int 0]) (rest := []) ⟨hx, hb, hml, hown, hts⟩ (t_J0_indexOf_7cf53 l D cI cR cM _     (by first | assumption | omega)) (cwV 2 hts gJ0_indexOf_0f7a4_J0_indexOf_7cf53 rfl rfl rfl (by decide +kernel) ⟨Nat.le_of_ble_eq_true rfl, Nat.le_of_ble_eq_true rfl⟩) (pre_SV hK hST hS hAB hV (by decide)) rfl rfl hl.1 rfl (lv_room (Nat.le_of_ble_eq_true rfl)) dJ0_indexOf_0f7a4_3 ⟨Nat.le_of_ble_eq_true rfl, Nat.le_of_ble_eq_true rfl⟩) hS hA hP (fun r_2 H locs hw hP hS => ?_)
  have h2_2 : (0 ≤ r_2.toInt → x.toInt ≠ 2) := hw
  exact rp_iret hx hb hr hlocks hS (show 0 ≤ r_2.toInt → x.toInt ≠ 2 from (by first | assumption | omega)) hQ dJ0_indexOf_0f7a4_6
set_option maxRecDepth 100000 in
set_option maxHeartbeats 4000000 in
theorem t_X8_signKind (l : Launch) (D : va_G) (cI cR cM : ClassId) (sz : Nat) {x : Int32} {adK adV : Nat → Nat} {B0 : Nat}  (hx0 : -1 ≤ x.toInt ∧ x.toInt ≤ 255) : Met l yX8_signKind wsX8_signKind ({ frames := 4, cells := 0, slots := 0, locals := 91 }) (P0S D cI cR cM [.int x] sz [] adK adV B0) (QP (fun r => (r.toInt = 2 → 48 ≤ x.toInt ∧ x.toInt ≤ 57)) sz) 0 0 (va_A [] sz) := by
  refine goS (cc := cX8_signKind) (maxL := 1) (ret := (some .int)) (by decide +kernel) rfl (Nat.le_of_ble_eq_true rfl) ?_
  intro p e s m below meth c ls args Q hQ hsz hx hb hr hml hts hown hlocks hnm hP hK hD hl hST
  subst hsz
  have hS : va_S (va_A [] s.heap.size) s.heap s.heap [] := va_S.rf
  have hA : ∀ q, s.heap.size ≤ q → va_A [] s.heap.size q := fun q h => Or.inr h
  have hAB : ∀ q, va_A [] s.heap.size q → B0 ≤ q := fun q h => by
    rcases h with ⟨k, e9, h⟩ | h
    · simp at h
    · exact Nat.le_trans hST.1 h
  have hV := hST.2.1.narrow hAB
  have hZ9 := hST.2.2.2.1.narrow hAB
  have hQ9 := hST.2.2.2.2.narrow hAB
  have hl : lv_has ls 1 [(0, .int x)] := hl
  refine lv_iload_n hx hb dX8_signKind_0 rfl (lv_at hl 0 rfl) ?_
  refine lv_bipush (v := 48) hx hb dX8_signKind_1 (by decide) ?_
  refine a_icmp_lt (u := x.toInt) (v := 48) (tgt := 14) hx hb dX8_signKind_3 (by decide) (rfl) (by decide) (fun c_1 => ?_) (fun c_1 => ?_)
  · refine va_ldcS hx hb hown (show vk_R RX8 71 "=;*()[]<>|?" (adK 7) s from hST.2.2.1 7 (by decide)) dX8_signKind_14 ?_
    refine lv_iload_n hx hb dX8_signKind_16 rfl (lv_at hl 0 rfl) ?_
    refine lv_i2c hx hb dX8_signKind_17 rfl ?_
    refine lv_topi (fun z_2 q_2 => ?_)
    have e2_2 := i2c2 q_2
    refine roP (va_runV (As := [.int z_2]) (rest := []) ⟨hx, hb, hml, hown, hts⟩ (t_J0_indexOf_0f7a4 l D cI cR cM _     ) (cwV 1 hts gX8_signKind_J0_indexOf_0f7a4 rfl rfl rfl (by decide +kernel) ⟨Nat.le_of_ble_eq_true rfl, Nat.le_of_ble_eq_true rfl⟩) (pre_SV hK hST hS hAB hV (by decide)) rfl rfl hl.1 rfl (lv_room (Nat.le_of_ble_eq_true rfl)) dX8_signKind_18 ⟨Nat.le_of_ble_eq_true rfl, Nat.le_of_ble_eq_true rfl⟩) hS hA hP (fun r_3 H locs hw hP hS => ?_)
    have h2_3 : (0 ≤ r_3.toInt → z_2.toInt ≠ 2) := hw
    refine a_if_lt (u := r_3.toInt) (tgt := 28) hx hb dX8_signKind_21 (by decide) (rfl) (fun c_4 => ?_) (fun c_4 => ?_)
    · refine lv_iconst (v := 1) hx hb dX8_signKind_28 (by decide) ?_
      have hz_5 : (1 : Int32).toInt = 1 := by decide
      exact rp_iret hx hb hr hlocks hS (show (1 : Int32).toInt = 2 → 48 ≤ x.toInt ∧ x.toInt ≤ 57 from (by first | assumption | omega)) hQ dX8_signKind_29
    · refine lv_iload_n hx hb dX8_signKind_24 rfl (lv_at hl 0 rfl) ?_
      refine lv_goto (tgt := 29) hx hb dX8_signKind_25 (by decide) ?_
      exact rp_iret hx hb hr hlocks hS (show x.toInt = 2 → 48 ≤ x.toInt ∧ x.toInt ≤ 57 from (by first | assumption | omega)) hQ dX8_signKind_29
  · refine lv_iload_n hx hb dX8_signKind_6 rfl (lv_at hl 0 rfl) ?_
    refine lv_bipush (v := 57) hx hb dX8_signKind_7 (by decide) ?_
    refine a_icmp_gt (u := x.toInt) (v := 57) (tgt := 14) hx hb dX8_signKind_9 (by decide) (rfl) (by decide) (fun c_6 => ?_) (fun c_6 => ?_)
    · refine va_ldcS hx hb hown (show vk_R RX8 71 "=;*()[]<>|?" (adK 7) s from hST.2.2.1 7 (by decide)) dX8_signKind_14 ?_
      refine lv_iload_n hx hb dX8_signKind_16 rfl (lv_at hl 0 rfl) ?_
      refine lv_i2c hx hb dX8_signKind_17 rfl ?_
      refine lv_topi (fun z_7 q_7 => ?_)
      have e2_7 := i2c2 q_7
      refine roP (va_runV (As := [.int z_7]) (rest := []) ⟨hx, hb, hml, hown, hts⟩ (t_J0_indexOf_0f7a4 l D cI cR cM _     ) (cwV 1 hts gX8_signKind_J0_indexOf_0f7a4 rfl rfl rfl (by decide +kernel) ⟨Nat.le_of_ble_eq_true rfl, Nat.le_of_ble_eq_true rfl⟩) (pre_SV hK hST hS hAB hV (by decide)) rfl rfl hl.1 rfl (lv_room (Nat.le_of_ble_eq_true rfl)) dX8_signKind_18 ⟨Nat.le_of_ble_eq_true rfl, Nat.le_of_ble_eq_true rfl⟩) hS hA hP (fun r_8 H locs hw hP hS => ?_)
      have h2_8 : (0 ≤ r_8.toInt → z_7.toInt ≠ 2) := hw
      refine a_if_lt (u := r_8.toInt) (tgt := 28) hx hb dX8_signKind_21 (by decide) (rfl) (fun c_9 => ?_) (fun c_9 => ?_)
      · refine lv_iconst (v := 1) hx hb dX8_signKind_28 (by decide) ?_
        have hz_10 : (1 : Int32).toInt = 1 := by decide
        exact rp_iret hx hb hr hlocks hS (show (1 : Int32).toInt = 2 → 48 ≤ x.toInt ∧ x.toInt ≤ 57 from (by first | assumption | omega)) hQ dX8_signKind_29
      · refine lv_iload_n hx hb dX8_signKind_24 rfl (lv_at hl 0 rfl) ?_
        refine lv_goto (tgt := 29) hx hb dX8_signKind_25 (by decide) ?_
        exact rp_iret hx hb hr hlocks hS (show x.toInt = 2 → 48 ≤ x.toInt ∧ x.toInt ≤ 57 from (by first | assumption | omega)) hQ dX8_signKind_29
    · refine lv_iconst (v := 2) hx hb dX8_signKind_12 (by decide) ?_
      have hz_11 : (2 : Int32).toInt = 2 := by decide
      exact rp_iret hx hb hr hlocks hS (show (2 : Int32).toInt = 2 → 48 ≤ x.toInt ∧ x.toInt ≤ 57 from (by first | assumption | omega)) hQ dX8_signKind_13
set_option maxRecDepth 100000 in
set_option maxHeartbeats 4000000 in
theorem t_X8_spells (l : Launch) (D : va_G) (cI cR cM : ClassId) (sz : Nat) {jn : Nat} {g : Nat → Nat} {L : List Nat} {S : Sg} {f : Nat → va_E} {x y : Int32} {i : Nat} {adK adV : Nat → Nat} {B0 : Nat}  (hj : 1 ≤ jn ∧ jn ≤ 3) (hG : SG g L S) (hI : IN jn cI cR cM g L S f) (hB : ∀ a, a ∈ L → B0 ≤ a) (hi8 : i < 8) (hx0 : 0 ≤ x.toInt ∧ x.toInt ≤ 1000 ∧ 0 ≤ y.toInt ∧ y.toInt ≤ 1000) : Met l yX8_spells wsX8_spells ({ frames := 4, cells := 0, slots := 0, locals := 85 }) (P0S D cI cR cM [.ref (g 14), .ref (adK i), .int x, .int y] sz (va_pl L f) adK adV B0) (QP (fun r => (r.toInt = 0 ∨ r.toInt = 1)) sz) 0 0 (va_A [] sz) := by
  refine goS (cc := cX8_spells) (maxL := 5) (ret := (some .boolean)) (by decide +kernel) rfl (Nat.le_of_ble_eq_true rfl) ?_
  intro p e s m below meth c ls args Q hQ hsz hx hb hr hml hts hown hlocks hnm hP hK hD hl hST
  subst hsz
  have hS : va_S (va_A [] s.heap.size) s.heap s.heap [] := va_S.rf
  have hA : ∀ q, s.heap.size ≤ q → va_A [] s.heap.size q := fun q h => Or.inr h
  have hAB : ∀ q, va_A [] s.heap.size q → B0 ≤ q := fun q h => by
    rcases h with ⟨k, e9, h⟩ | h
    · simp at h
    · exact Nat.le_trans hST.1 h
  have hV := hST.2.1.narrow hAB
  have hZ9 := hST.2.2.2.1.narrow hAB
  have hQ9 := hST.2.2.2.2.narrow hAB
  have hl : lv_has ls 5 [(0, .ref (g 14)), (1, .ref (adK i)), (2, .int x), (3, .int y)] := hl
  refine lv_iload_n hx hb dX8_spells_0 rfl (lv_at hl 3 rfl) ?_
  refine lv_iload_n hx hb dX8_spells_1 rfl (lv_at hl 2 rfl) ?_
  refine a_isub (u := y.toInt) (v := x.toInt) hx hb dX8_spells_2 (rfl) (rfl) (by omega) (fun z_1 e_1 => ?_)
  refine lv_aload_n hx hb dX8_spells_3 rfl (lv_at hl 1 rfl) ?_
  refine roP (va_runV (As := []) (rest := [.int z_1]) ⟨hx, hb, hml, hown, hts⟩ (t_J0_length_8abf5 l D cI cR cM _  (i := i)   (by first | assumption | omega)) (cwV 0 hts gX8_spells_J0_length_8abf5 rfl rfl rfl (by decide +kernel) ⟨Nat.le_of_ble_eq_true rfl, Nat.le_of_ble_eq_true rfl⟩) (pre_SV hK hST hS hAB hV hi8) rfl rfl hl.1 rfl (lv_room (Nat.le_of_ble_eq_true rfl)) dX8_spells_4 ⟨Nat.le_of_ble_eq_true rfl, Nat.le_of_ble_eq_true rfl⟩) hS hA hP (fun r_2 H locs hw hP hS => ?_)
  obtain ⟨h_2, h11_2⟩ : (r_2.toInt = (lenS.getD i 0 : Nat)) ∧ (lenS.getD i 0 ≤ 11) := hw
  refine a_icmp_eq (u := (y.toInt - x.toInt)) (v := r_2.toInt) (tgt := 12) hx hb dX8_spells_7 (by decide) (e_1) (rfl) (fun c_3 => ?_) (fun c_3 => ?_)
  · refine lv_iconst (v := 0) hx hb dX8_spells_12 (by decide) ?_
    refine lv_istore (lv' := [(4, .int 0), (0, .ref (g 14)), (1, .ref (adK i)), (2, .int x), (3, .int y)]) hx hb dX8_spells_13 hl (by decide) rfl (fun ls hl => ?_)
    have loop15 : ∀ (ddloop15 : Nat) (ii : Int32) (H : Heap) (locs : List Loc) (ls : Array Slot), (100 - ii.toInt).toNat < ddloop15 → (0 ≤ ii.toInt ∧ ii.toInt ≤ 20) → va_P D vwCl (va_pl L f) H → va_S (va_A [] s.heap.size) s.heap H locs → lv_has ls 5 [(0, .ref (g 14)), (1, .ref (adK i)), (2, .int x), (3, .int y), (4, .int ii)] → W p l e ({ frames := 4, cells := 0, slots := 0, locals := 85 }) s m args below meth c H locs (0) (0) Q (F0 m 15 ls []) := by
      intro ddloop15
      induction ddloop15 with
      | zero =>
        intro ii H locs ls hdd
        exact absurd hdd (Nat.not_lt_zero _)
      | succ ddloop15 ih15 =>
        intro ii H locs ls hdd hi hP hS hl
        refine lv_iload hx hb dX8_spells_15 (lv_at hl 4 rfl) ?_
        refine lv_aload_n hx hb dX8_spells_17 rfl (lv_at hl 1 rfl) ?_
        refine roP (va_runV (As := []) (rest := [.int ii]) ⟨hx, hb, hml, hown, hts⟩ (t_J0_length_8abf5 l D cI cR cM _  (i := i)   (by first | assumption | omega)) (cwV 0 hts gX8_spells_J0_length_8abf5 rfl rfl rfl (by decide +kernel) ⟨Nat.le_of_ble_eq_true rfl, Nat.le_of_ble_eq_true rfl⟩) (pre_SV hK hST hS hAB hV hi8) rfl rfl hl.1 rfl (lv_room (Nat.le_of_ble_eq_true rfl)) dX8_spells_18 ⟨Nat.le_of_ble_eq_true rfl, Nat.le_of_ble_eq_true rfl⟩) hS hA hP (fun r_5 H locs hw hP hS => ?_)
        obtain ⟨h_5, h11_5⟩ : (r_5.toInt = (lenS.getD i 0 : Nat)) ∧ (lenS.getD i 0 ≤ 11) := hw
        refine a_icmp_ge (u := ii.toInt) (v := r_5.toInt) (tgt := 52) hx hb dX8_spells_21 (by decide) (rfl) (rfl) (fun c_6 => ?_) (fun c_6 => ?_)
        · refine lv_iconst (v := 1) hx hb dX8_spells_52 (by decide) ?_
          have hz_7 : (1 : Int32).toInt = 1 := by decide
          exact rp_zret hx hb hr hlocks hS (by first | exact Or.inl rfl | exact Or.inr rfl) (show (1 : Int32).toInt = 0 ∨ (1 : Int32).toInt = 1 from (by first | assumption | omega)) hQ dX8_spells_53
        · refine lv_aload_n hx hb dX8_spells_24 rfl (lv_at hl 0 rfl) ?_
          obtain ⟨cnt_8, nx_8, kd_8, vl_8, st_8, ls_8, fg_8, iv0_8, iv1_8, iv2_8⟩ := op_14 hI (gm_14 hG) (gs_14 hG)
          refine t_get (D := D) (L := L) (f := f) (ci := 8) (v := .ref (g 11)) (C := RX8) (T := TX8) (N := 10) hx hb hts (by decide +kernel) hown hK.1 hP (gm_14 hG) fg_8 rfl 0 (by decide) (hts (.fieldLink RX8 21 "JugglingHall$Tokens" "tape" "LJugglingHall$Tape;") (by decide +kernel)) (fun _ h9 => h9) rfl dX8_spells_25 ?_
          refine lv_iload_n hx hb dX8_spells_28 rfl (lv_at hl 2 rfl) ?_
          refine lv_iload hx hb dX8_spells_29 (lv_at hl 4 rfl) ?_
          refine a_iadd (u := x.toInt) (v := ii.toInt) hx hb dX8_spells_31 (rfl) (rfl) (by omega) (fun z_9 e_9 => ?_)
          obtain ⟨len_10, fg_10, iv0_10, iv1_10⟩ := op_11 hI (gm_11 hG) (gs_11 hG)
          refine roP (va_runV (As := [.int z_9]) (rest := []) ⟨hx, hb, hml, hown, hts⟩ (t_X7_byteAt l D cI cR cM _   hj hG hI  ) (cwV 1 hts gX8_spells_X7_byteAt rfl rfl rfl (by decide +kernel) ⟨Nat.le_of_ble_eq_true rfl, Nat.le_of_ble_eq_true rfl⟩) (pre_T hK hP hD (gm_11 hG) fg_10 rfl) rfl rfl hl.1 rfl (lv_room (Nat.le_of_ble_eq_true rfl)) dX8_spells_32 ⟨Nat.le_of_ble_eq_true rfl, Nat.le_of_ble_eq_true rfl⟩) hS hA hP (fun r_11 H locs hw hP hS => ?_)
          have h_11 : (-1 ≤ r_11.toInt ∧ r_11.toInt ≤ 255) := hw
          refine lv_aload_n hx hb dX8_spells_35 rfl (lv_at hl 1 rfl) ?_
          refine lv_iload hx hb dX8_spells_36 (lv_at hl 4 rfl) ?_
          refine roP (va_runV (As := [.int ii]) (rest := [.int r_11]) ⟨hx, hb, hml, hown, hts⟩ (t_J0_charAt_5068e l D cI cR cM _  (i := i)   (by first | assumption | omega) (by first | assumption | omega)) (cwV 1 hts gX8_spells_J0_charAt_5068e rfl rfl rfl (by decide +kernel) ⟨Nat.le_of_ble_eq_true rfl, Nat.le_of_ble_eq_true rfl⟩) (pre_SV hK hST hS hAB hV hi8) rfl rfl hl.1 rfl (lv_room (Nat.le_of_ble_eq_true rfl)) dX8_spells_38 ⟨Nat.le_of_ble_eq_true rfl, Nat.le_of_ble_eq_true rfl⟩) hS hA hP (fun r_12 H locs hw hP hS => ?_)
          have hn_12 : (narrow .char (.int r_12) = .int r_12) := hw
          refine a_icmp_eq (u := r_11.toInt) (v := r_12.toInt) (tgt := 46) hx hb dX8_spells_41 (by decide) (rfl) (rfl) (fun c_13 => ?_) (fun c_13 => ?_)
          · obtain ⟨z_14, q_14, e_14⟩ := i_inc (a := ii.toInt) (1) (rfl) (by decide) (by omega) (by omega)
            refine lv_iinc (v := z_14) (lv' := [(4, .int z_14), (0, .ref (g 14)), (1, .ref (adK i)), (2, .int x), (3, .int y)]) hx hb dX8_spells_46 hl (k := 4) rfl q_14 (by decide) rfl (fun ls hl => ?_)
            refine lv_goto (tgt := 15) hx hb dX8_spells_49 (by decide) ?_
            exact ih15 z_14 _ _ _ (by omega) (by first | assumption | omega) hP hS (lv_sub hl [1, 2, 3, 4, 0] rfl)
          · refine lv_iconst (v := 0) hx hb dX8_spells_44 (by decide) ?_
            have hz_15 : (0 : Int32).toInt = 0 := by decide
            exact rp_zret hx hb hr hlocks hS (by first | exact Or.inl rfl | exact Or.inr rfl) (show (0 : Int32).toInt = 0 ∨ (0 : Int32).toInt = 1 from (by first | assumption | omega)) hQ dX8_spells_45
    have hz_16 : (0 : Int32).toInt = 0 := by decide
    exact loop15 ((100 - (0 : Int32).toInt).toNat + 1) (0 : Int32) _ _ _ (by omega) (by first | assumption | omega) hP hS (lv_sub hl [1, 2, 3, 4, 0] rfl)
  · refine lv_iconst (v := 0) hx hb dX8_spells_10 (by decide) ?_
    have hz_17 : (0 : Int32).toInt = 0 := by decide
    exact rp_zret hx hb hr hlocks hS (by first | exact Or.inl rfl | exact Or.inr rfl) (show (0 : Int32).toInt = 0 ∨ (0 : Int32).toInt = 1 from (by first | assumption | omega)) hQ dX8_spells_11
set_option maxRecDepth 100000 in
set_option maxHeartbeats 4000000 in
theorem t_X8_wordKind (l : Launch) (D : va_G) (cI cR cM : ClassId) (sz : Nat) {jn : Nat} {g : Nat → Nat} {L : List Nat} {S : Sg} {f : Nat → va_E} {x y : Int32} {adK adV : Nat → Nat} {B0 : Nat}  (hj : 1 ≤ jn ∧ jn ≤ 3) (hG : SG g L S) (hI : IN jn cI cR cM g L S f) (hB : ∀ a, a ∈ L → B0 ≤ a) (hx0 : 0 ≤ x.toInt ∧ x.toInt ≤ 1000 ∧ 0 ≤ y.toInt ∧ y.toInt ≤ 1000) : Met l yX8_wordKind wsX8_wordKind ({ frames := 5, cells := 0, slots := 0, locals := 109 }) (P0S D cI cR cM [.ref (g 14), .int x, .int y] sz (va_pl L f) adK adV B0) (QP (fun r => (r.toInt ≠ 2)) sz) 0 0 (va_A [] sz) := by
  refine goS (cc := cX8_wordKind) (maxL := 4) (ret := (some .int)) (by decide +kernel) rfl (Nat.le_of_ble_eq_true rfl) ?_
  intro p e s m below meth c ls args Q hQ hsz hx hb hr hml hts hown hlocks hnm hP hK hD hl hST
  subst hsz
  have hS : va_S (va_A [] s.heap.size) s.heap s.heap [] := va_S.rf
  have hA : ∀ q, s.heap.size ≤ q → va_A [] s.heap.size q := fun q h => Or.inr h
  have hAB : ∀ q, va_A [] s.heap.size q → B0 ≤ q := fun q h => by
    rcases h with ⟨k, e9, h⟩ | h
    · simp at h
    · exact Nat.le_trans hST.1 h
  have hV := hST.2.1.narrow hAB
  have hZ9 := hST.2.2.2.1.narrow hAB
  have hQ9 := hST.2.2.2.2.narrow hAB
  have hl : lv_has ls 4 [(0, .ref (g 14)), (1, .int x), (2, .int y)] := hl
  refine lv_aload_n hx hb dX8_wordKind_0 rfl (lv_at hl 0 rfl) ?_
  obtain ⟨cnt_1, nx_1, kd_1, vl_1, st_1, ls_1, fg_1, iv0_1, iv1_1, iv2_1⟩ := op_14 hI (gm_14 hG) (gs_14 hG)
  refine t_get (D := D) (L := L) (f := f) (ci := 8) (v := .ref (g 11)) (C := RX8) (T := TX8) (N := 10) hx hb hts (by decide +kernel) hown hK.1 hP (gm_14 hG) fg_1 rfl 0 (by decide) (hts (.fieldLink RX8 21 "JugglingHall$Tokens" "tape" "LJugglingHall$Tape;") (by decide +kernel)) (fun _ h9 => h9) rfl dX8_wordKind_1 ?_
  refine lv_iload_n hx hb dX8_wordKind_4 rfl (lv_at hl 1 rfl) ?_
  obtain ⟨len_2, fg_2, iv0_2, iv1_2⟩ := op_11 hI (gm_11 hG) (gs_11 hG)
  refine roP (va_runV (As := [.int x]) (rest := []) ⟨hx, hb, hml, hown, hts⟩ (t_X7_byteAt l D cI cR cM _   hj hG hI  ) (cwV 1 hts gX8_wordKind_X7_byteAt rfl rfl rfl (by decide +kernel) ⟨Nat.le_of_ble_eq_true rfl, Nat.le_of_ble_eq_true rfl⟩) (pre_T hK hP hD (gm_11 hG) fg_2 rfl) rfl rfl hl.1 rfl (lv_room (Nat.le_of_ble_eq_true rfl)) dX8_wordKind_5 ⟨Nat.le_of_ble_eq_true rfl, Nat.le_of_ble_eq_true rfl⟩) hS hA hP (fun r_3 H locs hw hP hS => ?_)
  have h_3 : (-1 ≤ r_3.toInt ∧ r_3.toInt ≤ 255) := hw
  refine lv_istore_n (lv' := [(3, .int r_3), (0, .ref (g 14)), (1, .int x), (2, .int y)]) hx hb dX8_wordKind_8 rfl hl (by decide) rfl (fun ls hl => ?_)
  refine lv_iload_n hx hb dX8_wordKind_9 rfl (lv_at hl 3 rfl) ?_
  refine lv_iload_n hx hb dX8_wordKind_10 rfl (lv_at hl 2 rfl) ?_
  refine a_isub (u := y.toInt) (v := x.toInt) hx hb dX8_wordKind_11 (rfl) (rfl) (by omega) (fun z_4 e_4 => ?_)
  refine lv_iconst (v := 1) hx hb dX8_wordKind_12 (by decide) ?_
  refine a_icmp_ne (u := (y.toInt - x.toInt)) (v := 1) (tgt := 30) hx hb dX8_wordKind_13 (by decide) (e_4) (by decide) (fun c_5 => ?_) (fun c_5 => ?_)
  · refine lv_aload_n hx hb dX8_wordKind_30 rfl (lv_at hl 1 rfl) ?_
    refine va_ldcS hx hb hown (show vk_R RX8 78 "row" (adK 0) s from hST.2.2.1 0 (by decide)) dX8_wordKind_31 ?_
    refine lv_iload_n hx hb dX8_wordKind_33 rfl (lv_at hl 2 rfl) ?_
    refine lv_iload_n hx hb dX8_wordKind_34 rfl (lv_at hl 3 rfl) ?_
    refine roP (va_runV (As := [.ref (adK 0), .int x, .int y]) (rest := []) ⟨hx, hb, hml, hown, hts⟩ (t_X8_spells l D cI cR cM _  (i := 0) hj hG hI hB  (by first | assumption | omega) (by first | assumption | omega)) (cwV 3 hts gX8_wordKind_X8_spells rfl rfl rfl (by decide +kernel) ⟨Nat.le_of_ble_eq_true rfl, Nat.le_of_ble_eq_true rfl⟩) (pre_TS hK hST hS hAB hP hD (gm_14 hG) fg_1 rfl) rfl rfl hl.1 rfl (lv_room (Nat.le_of_ble_eq_true rfl)) dX8_wordKind_35 ⟨Nat.le_of_ble_eq_true rfl, Nat.le_of_ble_eq_true rfl⟩) hS hA hP (fun r_6 H locs hw hP hS => ?_)
    have h01_6 : (r_6.toInt = 0 ∨ r_6.toInt = 1) := hw
    refine a_if_eq (u := r_6.toInt) (tgt := 43) hx hb dX8_wordKind_38 (by decide) (rfl) (fun c_7 => ?_) (fun c_7 => ?_)
    · refine lv_aload_n hx hb dX8_wordKind_43 rfl (lv_at hl 1 rfl) ?_
      refine va_ldcS hx hb hown (show vk_R RX8 84 "seen" (adK 1) s from hST.2.2.1 1 (by decide)) dX8_wordKind_44 ?_
      refine lv_iload_n hx hb dX8_wordKind_46 rfl (lv_at hl 2 rfl) ?_
      refine lv_iload_n hx hb dX8_wordKind_47 rfl (lv_at hl 3 rfl) ?_
      refine roP (va_runV (As := [.ref (adK 1), .int x, .int y]) (rest := []) ⟨hx, hb, hml, hown, hts⟩ (t_X8_spells l D cI cR cM _  (i := 1) hj hG hI hB  (by first | assumption | omega) (by first | assumption | omega)) (cwV 3 hts gX8_wordKind_X8_spells rfl rfl rfl (by decide +kernel) ⟨Nat.le_of_ble_eq_true rfl, Nat.le_of_ble_eq_true rfl⟩) (pre_TS hK hST hS hAB hP hD (gm_14 hG) fg_1 rfl) rfl rfl hl.1 rfl (lv_room (Nat.le_of_ble_eq_true rfl)) dX8_wordKind_48 ⟨Nat.le_of_ble_eq_true rfl, Nat.le_of_ble_eq_true rfl⟩) hS hA hP (fun r_8 H locs hw hP hS => ?_)
      have h01_8 : (r_8.toInt = 0 ∨ r_8.toInt = 1) := hw
      refine a_if_eq (u := r_8.toInt) (tgt := 56) hx hb dX8_wordKind_51 (by decide) (rfl) (fun c_9 => ?_) (fun c_9 => ?_)
      · refine lv_aload_n hx hb dX8_wordKind_56 rfl (lv_at hl 1 rfl) ?_
        refine va_ldcS hx hb hown (show vk_R RX8 86 "back" (adK 2) s from hST.2.2.1 2 (by decide)) dX8_wordKind_57 ?_
        refine lv_iload_n hx hb dX8_wordKind_59 rfl (lv_at hl 2 rfl) ?_
        refine lv_iload_n hx hb dX8_wordKind_60 rfl (lv_at hl 3 rfl) ?_
        refine roP (va_runV (As := [.ref (adK 2), .int x, .int y]) (rest := []) ⟨hx, hb, hml, hown, hts⟩ (t_X8_spells l D cI cR cM _  (i := 2) hj hG hI hB  (by first | assumption | omega) (by first | assumption | omega)) (cwV 3 hts gX8_wordKind_X8_spells rfl rfl rfl (by decide +kernel) ⟨Nat.le_of_ble_eq_true rfl, Nat.le_of_ble_eq_true rfl⟩) (pre_TS hK hST hS hAB hP hD (gm_14 hG) fg_1 rfl) rfl rfl hl.1 rfl (lv_room (Nat.le_of_ble_eq_true rfl)) dX8_wordKind_61 ⟨Nat.le_of_ble_eq_true rfl, Nat.le_of_ble_eq_true rfl⟩) hS hA hP (fun r_10 H locs hw hP hS => ?_)
        have h01_10 : (r_10.toInt = 0 ∨ r_10.toInt = 1) := hw
        refine a_if_eq (u := r_10.toInt) (tgt := 70) hx hb dX8_wordKind_64 (by decide) (rfl) (fun c_11 => ?_) (fun c_11 => ?_)
        · refine lv_aload_n hx hb dX8_wordKind_70 rfl (lv_at hl 1 rfl) ?_
          refine va_ldcS hx hb hown (show vk_R RX8 88 "over" (adK 3) s from hST.2.2.1 3 (by decide)) dX8_wordKind_71 ?_
          refine lv_iload_n hx hb dX8_wordKind_73 rfl (lv_at hl 2 rfl) ?_
          refine lv_iload_n hx hb dX8_wordKind_74 rfl (lv_at hl 3 rfl) ?_
          refine roP (va_runV (As := [.ref (adK 3), .int x, .int y]) (rest := []) ⟨hx, hb, hml, hown, hts⟩ (t_X8_spells l D cI cR cM _  (i := 3) hj hG hI hB  (by first | assumption | omega) (by first | assumption | omega)) (cwV 3 hts gX8_wordKind_X8_spells rfl rfl rfl (by decide +kernel) ⟨Nat.le_of_ble_eq_true rfl, Nat.le_of_ble_eq_true rfl⟩) (pre_TS hK hST hS hAB hP hD (gm_14 hG) fg_1 rfl) rfl rfl hl.1 rfl (lv_room (Nat.le_of_ble_eq_true rfl)) dX8_wordKind_75 ⟨Nat.le_of_ble_eq_true rfl, Nat.le_of_ble_eq_true rfl⟩) hS hA hP (fun r_12 H locs hw hP hS => ?_)
          have h01_12 : (r_12.toInt = 0 ∨ r_12.toInt = 1) := hw
          refine a_if_eq (u := r_12.toInt) (tgt := 84) hx hb dX8_wordKind_78 (by decide) (rfl) (fun c_13 => ?_) (fun c_13 => ?_)
          · refine lv_aload_n hx hb dX8_wordKind_84 rfl (lv_at hl 1 rfl) ?_
            refine va_ldcS hx hb hown (show vk_R RX8 90 "dual" (adK 4) s from hST.2.2.1 4 (by decide)) dX8_wordKind_85 ?_
            refine lv_iload_n hx hb dX8_wordKind_87 rfl (lv_at hl 2 rfl) ?_
            refine lv_iload_n hx hb dX8_wordKind_88 rfl (lv_at hl 3 rfl) ?_
            refine roP (va_runV (As := [.ref (adK 4), .int x, .int y]) (rest := []) ⟨hx, hb, hml, hown, hts⟩ (t_X8_spells l D cI cR cM _  (i := 4) hj hG hI hB  (by first | assumption | omega) (by first | assumption | omega)) (cwV 3 hts gX8_wordKind_X8_spells rfl rfl rfl (by decide +kernel) ⟨Nat.le_of_ble_eq_true rfl, Nat.le_of_ble_eq_true rfl⟩) (pre_TS hK hST hS hAB hP hD (gm_14 hG) fg_1 rfl) rfl rfl hl.1 rfl (lv_room (Nat.le_of_ble_eq_true rfl)) dX8_wordKind_89 ⟨Nat.le_of_ble_eq_true rfl, Nat.le_of_ble_eq_true rfl⟩) hS hA hP (fun r_14 H locs hw hP hS => ?_)
            have h01_14 : (r_14.toInt = 0 ∨ r_14.toInt = 1) := hw
            refine a_if_eq (u := r_14.toInt) (tgt := 98) hx hb dX8_wordKind_92 (by decide) (rfl) (fun c_15 => ?_) (fun c_15 => ?_)
            · refine lv_aload_n hx hb dX8_wordKind_98 rfl (lv_at hl 1 rfl) ?_
              refine va_ldcS hx hb hown (show vk_R RX8 92 "turn" (adK 5) s from hST.2.2.1 5 (by decide)) dX8_wordKind_99 ?_
              refine lv_iload_n hx hb dX8_wordKind_101 rfl (lv_at hl 2 rfl) ?_
              refine lv_iload_n hx hb dX8_wordKind_102 rfl (lv_at hl 3 rfl) ?_
              refine roP (va_runV (As := [.ref (adK 5), .int x, .int y]) (rest := []) ⟨hx, hb, hml, hown, hts⟩ (t_X8_spells l D cI cR cM _  (i := 5) hj hG hI hB  (by first | assumption | omega) (by first | assumption | omega)) (cwV 3 hts gX8_wordKind_X8_spells rfl rfl rfl (by decide +kernel) ⟨Nat.le_of_ble_eq_true rfl, Nat.le_of_ble_eq_true rfl⟩) (pre_TS hK hST hS hAB hP hD (gm_14 hG) fg_1 rfl) rfl rfl hl.1 rfl (lv_room (Nat.le_of_ble_eq_true rfl)) dX8_wordKind_103 ⟨Nat.le_of_ble_eq_true rfl, Nat.le_of_ble_eq_true rfl⟩) hS hA hP (fun r_16 H locs hw hP hS => ?_)
              have h01_16 : (r_16.toInt = 0 ∨ r_16.toInt = 1) := hw
              refine a_if_eq (u := r_16.toInt) (tgt := 112) hx hb dX8_wordKind_106 (by decide) (rfl) (fun c_17 => ?_) (fun c_17 => ?_)
              · refine lv_aload_n hx hb dX8_wordKind_112 rfl (lv_at hl 1 rfl) ?_
                refine va_ldcS hx hb hown (show vk_R RX8 94 "p" (adK 6) s from hST.2.2.1 6 (by decide)) dX8_wordKind_113 ?_
                refine lv_iload_n hx hb dX8_wordKind_115 rfl (lv_at hl 2 rfl) ?_
                refine lv_iload_n hx hb dX8_wordKind_116 rfl (lv_at hl 3 rfl) ?_
                refine roP (va_runV (As := [.ref (adK 6), .int x, .int y]) (rest := []) ⟨hx, hb, hml, hown, hts⟩ (t_X8_spells l D cI cR cM _  (i := 6) hj hG hI hB  (by first | assumption | omega) (by first | assumption | omega)) (cwV 3 hts gX8_wordKind_X8_spells rfl rfl rfl (by decide +kernel) ⟨Nat.le_of_ble_eq_true rfl, Nat.le_of_ble_eq_true rfl⟩) (pre_TS hK hST hS hAB hP hD (gm_14 hG) fg_1 rfl) rfl rfl hl.1 rfl (lv_room (Nat.le_of_ble_eq_true rfl)) dX8_wordKind_117 ⟨Nat.le_of_ble_eq_true rfl, Nat.le_of_ble_eq_true rfl⟩) hS hA hP (fun r_18 H locs hw hP hS => ?_)
                have h01_18 : (r_18.toInt = 0 ∨ r_18.toInt = 1) := hw
                refine a_if_eq (u := r_18.toInt) (tgt := 128) hx hb dX8_wordKind_120 (by decide) (rfl) (fun c_19 => ?_) (fun c_19 => ?_)
                · refine lv_iconst (v := 1) hx hb dX8_wordKind_128 (by decide) ?_
                  have hz_20 : (1 : Int32).toInt = 1 := by decide
                  exact rp_iret hx hb hr hlocks hS (show (1 : Int32).toInt ≠ 2 from (by first | assumption | omega)) hQ dX8_wordKind_129
                · refine lv_bipush (v := 10) hx hb dX8_wordKind_123 (by decide) ?_
                  refine lv_goto (tgt := 129) hx hb dX8_wordKind_125 (by decide) ?_
                  have hz_21 : (10 : Int32).toInt = 10 := by decide
                  exact rp_iret hx hb hr hlocks hS (show (10 : Int32).toInt ≠ 2 from (by first | assumption | omega)) hQ dX8_wordKind_129
              · refine lv_bipush (v := 9) hx hb dX8_wordKind_109 (by decide) ?_
                have hz_22 : (9 : Int32).toInt = 9 := by decide
                exact rp_iret hx hb hr hlocks hS (show (9 : Int32).toInt ≠ 2 from (by first | assumption | omega)) hQ dX8_wordKind_111
            · refine lv_bipush (v := 8) hx hb dX8_wordKind_95 (by decide) ?_
              have hz_23 : (8 : Int32).toInt = 8 := by decide
              exact rp_iret hx hb hr hlocks hS (show (8 : Int32).toInt ≠ 2 from (by first | assumption | omega)) hQ dX8_wordKind_97
          · refine lv_bipush (v := 7) hx hb dX8_wordKind_81 (by decide) ?_
            have hz_24 : (7 : Int32).toInt = 7 := by decide
            exact rp_iret hx hb hr hlocks hS (show (7 : Int32).toInt ≠ 2 from (by first | assumption | omega)) hQ dX8_wordKind_83
        · refine lv_bipush (v := 6) hx hb dX8_wordKind_67 (by decide) ?_
          have hz_25 : (6 : Int32).toInt = 6 := by decide
          exact rp_iret hx hb hr hlocks hS (show (6 : Int32).toInt ≠ 2 from (by first | assumption | omega)) hQ dX8_wordKind_69
      · refine lv_iconst (v := 5) hx hb dX8_wordKind_54 (by decide) ?_
        have hz_26 : (5 : Int32).toInt = 5 := by decide
        exact rp_iret hx hb hr hlocks hS (show (5 : Int32).toInt ≠ 2 from (by first | assumption | omega)) hQ dX8_wordKind_55
    · refine lv_iconst (v := 4) hx hb dX8_wordKind_41 (by decide) ?_
      have hz_27 : (4 : Int32).toInt = 4 := by decide
      exact rp_iret hx hb hr hlocks hS (show (4 : Int32).toInt ≠ 2 from (by first | assumption | omega)) hQ dX8_wordKind_42
  · refine lv_iload_n hx hb dX8_wordKind_16 rfl (lv_at hl 0 rfl) ?_
    refine lv_bipush (v := 65) hx hb dX8_wordKind_17 (by decide) ?_
    refine a_icmp_lt (u := r_3.toInt) (v := 65) (tgt := 30) hx hb dX8_wordKind_19 (by decide) (rfl) (by decide) (fun c_28 => ?_) (fun c_28 => ?_)
    · refine lv_aload_n hx hb dX8_wordKind_30 rfl (lv_at hl 1 rfl) ?_
      refine va_ldcS hx hb hown (show vk_R RX8 78 "row" (adK 0) s from hST.2.2.1 0 (by decide)) dX8_wordKind_31 ?_
      refine lv_iload_n hx hb dX8_wordKind_33 rfl (lv_at hl 2 rfl) ?_
      refine lv_iload_n hx hb dX8_wordKind_34 rfl (lv_at hl 3 rfl) ?_
      refine roP (va_runV (As := [.ref (adK 0), .int x, .int y]) (rest := []) ⟨hx, hb, hml, hown, hts⟩ (t_X8_spells l D cI cR cM _  (i := 0) hj hG hI hB  (by first | assumption | omega) (by first | assumption | omega)) (cwV 3 hts gX8_wordKind_X8_spells rfl rfl rfl (by decide +kernel) ⟨Nat.le_of_ble_eq_true rfl, Nat.le_of_ble_eq_true rfl⟩) (pre_TS hK hST hS hAB hP hD (gm_14 hG) fg_1 rfl) rfl rfl hl.1 rfl (lv_room (Nat.le_of_ble_eq_true rfl)) dX8_wordKind_35 ⟨Nat.le_of_ble_eq_true rfl, Nat.le_of_ble_eq_true rfl⟩) hS hA hP (fun r_29 H locs hw hP hS => ?_)
      have h01_29 : (r_29.toInt = 0 ∨ r_29.toInt = 1) := hw
      refine a_if_eq (u := r_29.toInt) (tgt := 43) hx hb dX8_wordKind_38 (by decide) (rfl) (fun c_30 => ?_) (fun c_30 => ?_)
      · refine lv_aload_n hx hb dX8_wordKind_43 rfl (lv_at hl 1 rfl) ?_
        refine va_ldcS hx hb hown (show vk_R RX8 84 "seen" (adK 1) s from hST.2.2.1 1 (by decide)) dX8_wordKind_44 ?_
        refine lv_iload_n hx hb dX8_wordKind_46 rfl (lv_at hl 2 rfl) ?_
        refine lv_iload_n hx hb dX8_wordKind_47 rfl (lv_at hl 3 rfl) ?_
        refine roP (va_runV (As := [.ref (adK 1), .int x, .int y]) (rest := []) ⟨hx, hb, hml, hown, hts⟩ (t_X8_spells l D cI cR cM _  (i := 1) hj hG hI hB  (by first | assumption | omega) (by first | assumption | omega)) (cwV 3 hts gX8_wordKind_X8_spells rfl rfl rfl (by decide +kernel) ⟨Nat.le_of_ble_eq_true rfl, Nat.le_of_ble_eq_true rfl⟩) (pre_TS hK hST hS hAB hP hD (gm_14 hG) fg_1 rfl) rfl rfl hl.1 rfl (lv_room (Nat.le_of_ble_eq_true rfl)) dX8_wordKind_48 ⟨Nat.le_of_ble_eq_true rfl, Nat.le_of_ble_eq_true rfl⟩) hS hA hP (fun r_31 H locs hw hP hS => ?_)
        have h01_31 : (r_31.toInt = 0 ∨ r_31.toInt = 1) := hw
        refine a_if_eq (u := r_31.toInt) (tgt := 56) hx hb dX8_wordKind_51 (by decide) (rfl) (fun c_32 => ?_) (fun c_32 => ?_)
        · refine lv_aload_n hx hb dX8_wordKind_56 rfl (lv_at hl 1 rfl) ?_
          refine va_ldcS hx hb hown (show vk_R RX8 86 "back" (adK 2) s from hST.2.2.1 2 (by decide)) dX8_wordKind_57 ?_
          refine lv_iload_n hx hb dX8_wordKind_59 rfl (lv_at hl 2 rfl) ?_
          refine lv_iload_n hx hb dX8_wordKind_60 rfl (lv_at hl 3 rfl) ?_
          refine roP (va_runV (As := [.ref (adK 2), .int x, .int y]) (rest := []) ⟨hx, hb, hml, hown, hts⟩ (t_X8_spells l D cI cR cM _  (i := 2) hj hG hI hB  (by first | assumption | omega) (by first | assumption | omega)) (cwV 3 hts gX8_wordKind_X8_spells rfl rfl rfl (by decide +kernel) ⟨Nat.le_of_ble_eq_true rfl, Nat.le_of_ble_eq_true rfl⟩) (pre_TS hK hST hS hAB hP hD (gm_14 hG) fg_1 rfl) rfl rfl hl.1 rfl (lv_room (Nat.le_of_ble_eq_true rfl)) dX8_wordKind_61 ⟨Nat.le_of_ble_eq_true rfl, Nat.le_of_ble_eq_true rfl⟩) hS hA hP (fun r_33 H locs hw hP hS => ?_)
          have h01_33 : (r_33.toInt = 0 ∨ r_33.toInt = 1) := hw
          refine a_if_eq (u := r_33.toInt) (tgt := 70) hx hb dX8_wordKind_64 (by decide) (rfl) (fun c_34 => ?_) (fun c_34 => ?_)
          · refine lv_aload_n hx hb dX8_wordKind_70 rfl (lv_at hl 1 rfl) ?_
            refine va_ldcS hx hb hown (show vk_R RX8 88 "over" (adK 3) s from hST.2.2.1 3 (by decide)) dX8_wordKind_71 ?_
            refine lv_iload_n hx hb dX8_wordKind_73 rfl (lv_at hl 2 rfl) ?_
            refine lv_iload_n hx hb dX8_wordKind_74 rfl (lv_at hl 3 rfl) ?_
            refine roP (va_runV (As := [.ref (adK 3), .int x, .int y]) (rest := []) ⟨hx, hb, hml, hown, hts⟩ (t_X8_spells l D cI cR cM _  (i := 3) hj hG hI hB  (by first | assumption | omega) (by first | assumption | omega)) (cwV 3 hts gX8_wordKind_X8_spells rfl rfl rfl (by decide +kernel) ⟨Nat.le_of_ble_eq_true rfl, Nat.le_of_ble_eq_true rfl⟩) (pre_TS hK hST hS hAB hP hD (gm_14 hG) fg_1 rfl) rfl rfl hl.1 rfl (lv_room (Nat.le_of_ble_eq_true rfl)) dX8_wordKind_75 ⟨Nat.le_of_ble_eq_true rfl, Nat.le_of_ble_eq_true rfl⟩) hS hA hP (fun r_35 H locs hw hP hS => ?_)
            have h01_35 : (r_35.toInt = 0 ∨ r_35.toInt = 1) := hw
            refine a_if_eq (u := r_35.toInt) (tgt := 84) hx hb dX8_wordKind_78 (by decide) (rfl) (fun c_36 => ?_) (fun c_36 => ?_)
            · refine lv_aload_n hx hb dX8_wordKind_84 rfl (lv_at hl 1 rfl) ?_
              refine va_ldcS hx hb hown (show vk_R RX8 90 "dual" (adK 4) s from hST.2.2.1 4 (by decide)) dX8_wordKind_85 ?_
              refine lv_iload_n hx hb dX8_wordKind_87 rfl (lv_at hl 2 rfl) ?_
              refine lv_iload_n hx hb dX8_wordKind_88 rfl (lv_at hl 3 rfl) ?_
              refine roP (va_runV (As := [.ref (adK 4), .int x, .int y]) (rest := []) ⟨hx, hb, hml, hown, hts⟩ (t_X8_spells l D cI cR cM _  (i := 4) hj hG hI hB  (by first | assumption | omega) (by first | assumption | omega)) (cwV 3 hts gX8_wordKind_X8_spells rfl rfl rfl (by decide +kernel) ⟨Nat.le_of_ble_eq_true rfl, Nat.le_of_ble_eq_true rfl⟩) (pre_TS hK hST hS hAB hP hD (gm_14 hG) fg_1 rfl) rfl rfl hl.1 rfl (lv_room (Nat.le_of_ble_eq_true rfl)) dX8_wordKind_89 ⟨Nat.le_of_ble_eq_true rfl, Nat.le_of_ble_eq_true rfl⟩) hS hA hP (fun r_37 H locs hw hP hS => ?_)
              have h01_37 : (r_37.toInt = 0 ∨ r_37.toInt = 1) := hw
              refine a_if_eq (u := r_37.toInt) (tgt := 98) hx hb dX8_wordKind_92 (by decide) (rfl) (fun c_38 => ?_) (fun c_38 => ?_)
              · refine lv_aload_n hx hb dX8_wordKind_98 rfl (lv_at hl 1 rfl) ?_
                refine va_ldcS hx hb hown (show vk_R RX8 92 "turn" (adK 5) s from hST.2.2.1 5 (by decide)) dX8_wordKind_99 ?_
                refine lv_iload_n hx hb dX8_wordKind_101 rfl (lv_at hl 2 rfl) ?_
                refine lv_iload_n hx hb dX8_wordKind_102 rfl (lv_at hl 3 rfl) ?_
                refine roP (va_runV (As := [.ref (adK 5), .int x, .int y]) (rest := []) ⟨hx, hb, hml, hown, hts⟩ (t_X8_spells l D cI cR cM _  (i := 5) hj hG hI hB  (by first | assumption | omega) (by first | assumption | omega)) (cwV 3 hts gX8_wordKind_X8_spells rfl rfl rfl (by decide +kernel) ⟨Nat.le_of_ble_eq_true rfl, Nat.le_of_ble_eq_true rfl⟩) (pre_TS hK hST hS hAB hP hD (gm_14 hG) fg_1 rfl) rfl rfl hl.1 rfl (lv_room (Nat.le_of_ble_eq_true rfl)) dX8_wordKind_103 ⟨Nat.le_of_ble_eq_true rfl, Nat.le_of_ble_eq_true rfl⟩) hS hA hP (fun r_39 H locs hw hP hS => ?_)
                have h01_39 : (r_39.toInt = 0 ∨ r_39.toInt = 1) := hw
                refine a_if_eq (u := r_39.toInt) (tgt := 112) hx hb dX8_wordKind_106 (by decide) (rfl) (fun c_40 => ?_) (fun c_40 => ?_)
                · refine lv_aload_n hx hb dX8_wordKind_112 rfl (lv_at hl 1 rfl) ?_
                  refine va_ldcS hx hb hown (show vk_R RX8 94 "p" (adK 6) s from hST.2.2.1 6 (by decide)) dX8_wordKind_113 ?_
                  refine lv_iload_n hx hb dX8_wordKind_115 rfl (lv_at hl 2 rfl) ?_
                  refine lv_iload_n hx hb dX8_wordKind_116 rfl (lv_at hl 3 rfl) ?_
                  refine roP (va_runV (As := [.ref (adK 6), .int x, .int y]) (rest := []) ⟨hx, hb, hml, hown, hts⟩ (t_X8_spells l D cI cR cM _  (i := 6) hj hG hI hB  (by first | assumption | omega) (by first | assumption | omega)) (cwV 3 hts gX8_wordKind_X8_spells rfl rfl rfl (by decide +kernel) ⟨Nat.le_of_ble_eq_true rfl, Nat.le_of_ble_eq_true rfl⟩) (pre_TS hK hST hS hAB hP hD (gm_14 hG) fg_1 rfl) rfl rfl hl.1 rfl (lv_room (Nat.le_of_ble_eq_true rfl)) dX8_wordKind_117 ⟨Nat.le_of_ble_eq_true rfl, Nat.le_of_ble_eq_true rfl⟩) hS hA hP (fun r_41 H locs hw hP hS => ?_)
                  have h01_41 : (r_41.toInt = 0 ∨ r_41.toInt = 1) := hw
                  refine a_if_eq (u := r_41.toInt) (tgt := 128) hx hb dX8_wordKind_120 (by decide) (rfl) (fun c_42 => ?_) (fun c_42 => ?_)
                  · refine lv_iconst (v := 1) hx hb dX8_wordKind_128 (by decide) ?_
                    have hz_43 : (1 : Int32).toInt = 1 := by decide
                    exact rp_iret hx hb hr hlocks hS (show (1 : Int32).toInt ≠ 2 from (by first | assumption | omega)) hQ dX8_wordKind_129
                  · refine lv_bipush (v := 10) hx hb dX8_wordKind_123 (by decide) ?_
                    refine lv_goto (tgt := 129) hx hb dX8_wordKind_125 (by decide) ?_
                    have hz_44 : (10 : Int32).toInt = 10 := by decide
                    exact rp_iret hx hb hr hlocks hS (show (10 : Int32).toInt ≠ 2 from (by first | assumption | omega)) hQ dX8_wordKind_129
                · refine lv_bipush (v := 9) hx hb dX8_wordKind_109 (by decide) ?_
                  have hz_45 : (9 : Int32).toInt = 9 := by decide
                  exact rp_iret hx hb hr hlocks hS (show (9 : Int32).toInt ≠ 2 from (by first | assumption | omega)) hQ dX8_wordKind_111
              · refine lv_bipush (v := 8) hx hb dX8_wordKind_95 (by decide) ?_
                have hz_46 : (8 : Int32).toInt = 8 := by decide
                exact rp_iret hx hb hr hlocks hS (show (8 : Int32).toInt ≠ 2 from (by first | assumption | omega)) hQ dX8_wordKind_97
            · refine lv_bipush (v := 7) hx hb dX8_wordKind_81 (by decide) ?_
              have hz_47 : (7 : Int32).toInt = 7 := by decide
              exact rp_iret hx hb hr hlocks hS (show (7 : Int32).toInt ≠ 2 from (by first | assumption | omega)) hQ dX8_wordKind_83
          · refine lv_bipush (v := 6) hx hb dX8_wordKind_67 (by decide) ?_
            have hz_48 : (6 : Int32).toInt = 6 := by decide
            exact rp_iret hx hb hr hlocks hS (show (6 : Int32).toInt ≠ 2 from (by first | assumption | omega)) hQ dX8_wordKind_69
        · refine lv_iconst (v := 5) hx hb dX8_wordKind_54 (by decide) ?_
          have hz_49 : (5 : Int32).toInt = 5 := by decide
          exact rp_iret hx hb hr hlocks hS (show (5 : Int32).toInt ≠ 2 from (by first | assumption | omega)) hQ dX8_wordKind_55
      · refine lv_iconst (v := 4) hx hb dX8_wordKind_41 (by decide) ?_
        have hz_50 : (4 : Int32).toInt = 4 := by decide
        exact rp_iret hx hb hr hlocks hS (show (4 : Int32).toInt ≠ 2 from (by first | assumption | omega)) hQ dX8_wordKind_42
    · refine lv_iload_n hx hb dX8_wordKind_22 rfl (lv_at hl 0 rfl) ?_
      refine lv_bipush (v := 73) hx hb dX8_wordKind_23 (by decide) ?_
      refine a_icmp_ge (u := r_3.toInt) (v := 73) (tgt := 30) hx hb dX8_wordKind_25 (by decide) (rfl) (by decide) (fun c_51 => ?_) (fun c_51 => ?_)
      · refine lv_aload_n hx hb dX8_wordKind_30 rfl (lv_at hl 1 rfl) ?_
        refine va_ldcS hx hb hown (show vk_R RX8 78 "row" (adK 0) s from hST.2.2.1 0 (by decide)) dX8_wordKind_31 ?_
        refine lv_iload_n hx hb dX8_wordKind_33 rfl (lv_at hl 2 rfl) ?_
        refine lv_iload_n hx hb dX8_wordKind_34 rfl (lv_at hl 3 rfl) ?_
        refine roP (va_runV (As := [.ref (adK 0), .int x, .int y]) (rest := []) ⟨hx, hb, hml, hown, hts⟩ (t_X8_spells l D cI cR cM _  (i := 0) hj hG hI hB  (by first | assumption | omega) (by first | assumption | omega)) (cwV 3 hts gX8_wordKind_X8_spells rfl rfl rfl (by decide +kernel) ⟨Nat.le_of_ble_eq_true rfl, Nat.le_of_ble_eq_true rfl⟩) (pre_TS hK hST hS hAB hP hD (gm_14 hG) fg_1 rfl) rfl rfl hl.1 rfl (lv_room (Nat.le_of_ble_eq_true rfl)) dX8_wordKind_35 ⟨Nat.le_of_ble_eq_true rfl, Nat.le_of_ble_eq_true rfl⟩) hS hA hP (fun r_52 H locs hw hP hS => ?_)
        have h01_52 : (r_52.toInt = 0 ∨ r_52.toInt = 1) := hw
        refine a_if_eq (u := r_52.toInt) (tgt := 43) hx hb dX8_wordKind_38 (by decide) (rfl) (fun c_53 => ?_) (fun c_53 => ?_)
        · refine lv_aload_n hx hb dX8_wordKind_43 rfl (lv_at hl 1 rfl) ?_
          refine va_ldcS hx hb hown (show vk_R RX8 84 "seen" (adK 1) s from hST.2.2.1 1 (by decide)) dX8_wordKind_44 ?_
          refine lv_iload_n hx hb dX8_wordKind_46 rfl (lv_at hl 2 rfl) ?_
          refine lv_iload_n hx hb dX8_wordKind_47 rfl (lv_at hl 3 rfl) ?_
          refine roP (va_runV (As := [.ref (adK 1), .int x, .int y]) (rest := []) ⟨hx, hb, hml, hown, hts⟩ (t_X8_spells l D cI cR cM _  (i := 1) hj hG hI hB  (by first | assumption | omega) (by first | assumption | omega)) (cwV 3 hts gX8_wordKind_X8_spells rfl rfl rfl (by decide +kernel) ⟨Nat.le_of_ble_eq_true rfl, Nat.le_of_ble_eq_true rfl⟩) (pre_TS hK hST hS hAB hP hD (gm_14 hG) fg_1 rfl) rfl rfl hl.1 rfl (lv_room (Nat.le_of_ble_eq_true rfl)) dX8_wordKind_48 ⟨Nat.le_of_ble_eq_true rfl, Nat.le_of_ble_eq_true rfl⟩) hS hA hP (fun r_54 H locs hw hP hS => ?_)
          have h01_54 : (r_54.toInt = 0 ∨ r_54.toInt = 1) := hw
          refine a_if_eq (u := r_54.toInt) (tgt := 56) hx hb dX8_wordKind_51 (by decide) (rfl) (fun c_55 => ?_) (fun c_55 => ?_)
          · refine lv_aload_n hx hb dX8_wordKind_56 rfl (lv_at hl 1 rfl) ?_
            refine va_ldcS hx hb hown (show vk_R RX8 86 "back" (adK 2) s from hST.2.2.1 2 (by decide)) dX8_wordKind_57 ?_
            refine lv_iload_n hx hb dX8_wordKind_59 rfl (lv_at hl 2 rfl) ?_
            refine lv_iload_n hx hb dX8_wordKind_60 rfl (lv_at hl 3 rfl) ?_
            refine roP (va_runV (As := [.ref (adK 2), .int x, .int y]) (rest := []) ⟨hx, hb, hml, hown, hts⟩ (t_X8_spells l D cI cR cM _  (i := 2) hj hG hI hB  (by first | assumption | omega) (by first | assumption | omega)) (cwV 3 hts gX8_wordKind_X8_spells rfl rfl rfl (by decide +kernel) ⟨Nat.le_of_ble_eq_true rfl, Nat.le_of_ble_eq_true rfl⟩) (pre_TS hK hST hS hAB hP hD (gm_14 hG) fg_1 rfl) rfl rfl hl.1 rfl (lv_room (Nat.le_of_ble_eq_true rfl)) dX8_wordKind_61 ⟨Nat.le_of_ble_eq_true rfl, Nat.le_of_ble_eq_true rfl⟩) hS hA hP (fun r_56 H locs hw hP hS => ?_)
            have h01_56 : (r_56.toInt = 0 ∨ r_56.toInt = 1) := hw
            refine a_if_eq (u := r_56.toInt) (tgt := 70) hx hb dX8_wordKind_64 (by decide) (rfl) (fun c_57 => ?_) (fun c_57 => ?_)
            · refine lv_aload_n hx hb dX8_wordKind_70 rfl (lv_at hl 1 rfl) ?_
              refine va_ldcS hx hb hown (show vk_R RX8 88 "over" (adK 3) s from hST.2.2.1 3 (by decide)) dX8_wordKind_71 ?_
              refine lv_iload_n hx hb dX8_wordKind_73 rfl (lv_at hl 2 rfl) ?_
              refine lv_iload_n hx hb dX8_wordKind_74 rfl (lv_at hl 3 rfl) ?_
              refine roP (va_runV (As := [.ref (adK 3), .int x, .int y]) (rest := []) ⟨hx, hb, hml, hown, hts⟩ (t_X8_spells l D cI cR cM _  (i := 3) hj hG hI hB  (by first | assumption | omega) (by first | assumption | omega)) (cwV 3 hts gX8_wordKind_X8_spells rfl rfl rfl (by decide +kernel) ⟨Nat.le_of_ble_eq_true rfl, Nat.le_of_ble_eq_true rfl⟩) (pre_TS hK hST hS hAB hP hD (gm_14 hG) fg_1 rfl) rfl rfl hl.1 rfl (lv_room (Nat.le_of_ble_eq_true rfl)) dX8_wordKind_75 ⟨Nat.le_of_ble_eq_true rfl, Nat.le_of_ble_eq_true rfl⟩) hS hA hP (fun r_58 H locs hw hP hS => ?_)
              have h01_58 : (r_58.toInt = 0 ∨ r_58.toInt = 1) := hw
              refine a_if_eq (u := r_58.toInt) (tgt := 84) hx hb dX8_wordKind_78 (by decide) (rfl) (fun c_59 => ?_) (fun c_59 => ?_)
              · refine lv_aload_n hx hb dX8_wordKind_84 rfl (lv_at hl 1 rfl) ?_
                refine va_ldcS hx hb hown (show vk_R RX8 90 "dual" (adK 4) s from hST.2.2.1 4 (by decide)) dX8_wordKind_85 ?_
                refine lv_iload_n hx hb dX8_wordKind_87 rfl (lv_at hl 2 rfl) ?_
                refine lv_iload_n hx hb dX8_wordKind_88 rfl (lv_at hl 3 rfl) ?_
                refine roP (va_runV (As := [.ref (adK 4), .int x, .int y]) (rest := []) ⟨hx, hb, hml, hown, hts⟩ (t_X8_spells l D cI cR cM _  (i := 4) hj hG hI hB  (by first | assumption | omega) (by first | assumption | omega)) (cwV 3 hts gX8_wordKind_X8_spells rfl rfl rfl (by decide +kernel) ⟨Nat.le_of_ble_eq_true rfl, Nat.le_of_ble_eq_true rfl⟩) (pre_TS hK hST hS hAB hP hD (gm_14 hG) fg_1 rfl) rfl rfl hl.1 rfl (lv_room (Nat.le_of_ble_eq_true rfl)) dX8_wordKind_89 ⟨Nat.le_of_ble_eq_true rfl, Nat.le_of_ble_eq_true rfl⟩) hS hA hP (fun r_60 H locs hw hP hS => ?_)
                have h01_60 : (r_60.toInt = 0 ∨ r_60.toInt = 1) := hw
                refine a_if_eq (u := r_60.toInt) (tgt := 98) hx hb dX8_wordKind_92 (by decide) (rfl) (fun c_61 => ?_) (fun c_61 => ?_)
                · refine lv_aload_n hx hb dX8_wordKind_98 rfl (lv_at hl 1 rfl) ?_
                  refine va_ldcS hx hb hown (show vk_R RX8 92 "turn" (adK 5) s from hST.2.2.1 5 (by decide)) dX8_wordKind_99 ?_
                  refine lv_iload_n hx hb dX8_wordKind_101 rfl (lv_at hl 2 rfl) ?_
                  refine lv_iload_n hx hb dX8_wordKind_102 rfl (lv_at hl 3 rfl) ?_
                  refine roP (va_runV (As := [.ref (adK 5), .int x, .int y]) (rest := []) ⟨hx, hb, hml, hown, hts⟩ (t_X8_spells l D cI cR cM _  (i := 5) hj hG hI hB  (by first | assumption | omega) (by first | assumption | omega)) (cwV 3 hts gX8_wordKind_X8_spells rfl rfl rfl (by decide +kernel) ⟨Nat.le_of_ble_eq_true rfl, Nat.le_of_ble_eq_true rfl⟩) (pre_TS hK hST hS hAB hP hD (gm_14 hG) fg_1 rfl) rfl rfl hl.1 rfl (lv_room (Nat.le_of_ble_eq_true rfl)) dX8_wordKind_103 ⟨Nat.le_of_ble_eq_true rfl, Nat.le_of_ble_eq_true rfl⟩) hS hA hP (fun r_62 H locs hw hP hS => ?_)
                  have h01_62 : (r_62.toInt = 0 ∨ r_62.toInt = 1) := hw
                  refine a_if_eq (u := r_62.toInt) (tgt := 112) hx hb dX8_wordKind_106 (by decide) (rfl) (fun c_63 => ?_) (fun c_63 => ?_)
                  · refine lv_aload_n hx hb dX8_wordKind_112 rfl (lv_at hl 1 rfl) ?_
                    refine va_ldcS hx hb hown (show vk_R RX8 94 "p" (adK 6) s from hST.2.2.1 6 (by decide)) dX8_wordKind_113 ?_
                    refine lv_iload_n hx hb dX8_wordKind_115 rfl (lv_at hl 2 rfl) ?_
                    refine lv_iload_n hx hb dX8_wordKind_116 rfl (lv_at hl 3 rfl) ?_
                    refine roP (va_runV (As := [.ref (adK 6), .int x, .int y]) (rest := []) ⟨hx, hb, hml, hown, hts⟩ (t_X8_spells l D cI cR cM _  (i := 6) hj hG hI hB  (by first | assumption | omega) (by first | assumption | omega)) (cwV 3 hts gX8_wordKind_X8_spells rfl rfl rfl (by decide +kernel) ⟨Nat.le_of_ble_eq_true rfl, Nat.le_of_ble_eq_true rfl⟩) (pre_TS hK hST hS hAB hP hD (gm_14 hG) fg_1 rfl) rfl rfl hl.1 rfl (lv_room (Nat.le_of_ble_eq_true rfl)) dX8_wordKind_117 ⟨Nat.le_of_ble_eq_true rfl, Nat.le_of_ble_eq_true rfl⟩) hS hA hP (fun r_64 H locs hw hP hS => ?_)
                    have h01_64 : (r_64.toInt = 0 ∨ r_64.toInt = 1) := hw
                    refine a_if_eq (u := r_64.toInt) (tgt := 128) hx hb dX8_wordKind_120 (by decide) (rfl) (fun c_65 => ?_) (fun c_65 => ?_)
                    · refine lv_iconst (v := 1) hx hb dX8_wordKind_128 (by decide) ?_
                      have hz_66 : (1 : Int32).toInt = 1 := by decide
                      exact rp_iret hx hb hr hlocks hS (show (1 : Int32).toInt ≠ 2 from (by first | assumption | omega)) hQ dX8_wordKind_129
                    · refine lv_bipush (v := 10) hx hb dX8_wordKind_123 (by decide) ?_
                      refine lv_goto (tgt := 129) hx hb dX8_wordKind_125 (by decide) ?_
                      have hz_67 : (10 : Int32).toInt = 10 := by decide
                      exact rp_iret hx hb hr hlocks hS (show (10 : Int32).toInt ≠ 2 from (by first | assumption | omega)) hQ dX8_wordKind_129
                  · refine lv_bipush (v := 9) hx hb dX8_wordKind_109 (by decide) ?_
                    have hz_68 : (9 : Int32).toInt = 9 := by decide
                    exact rp_iret hx hb hr hlocks hS (show (9 : Int32).toInt ≠ 2 from (by first | assumption | omega)) hQ dX8_wordKind_111
                · refine lv_bipush (v := 8) hx hb dX8_wordKind_95 (by decide) ?_
                  have hz_69 : (8 : Int32).toInt = 8 := by decide
                  exact rp_iret hx hb hr hlocks hS (show (8 : Int32).toInt ≠ 2 from (by first | assumption | omega)) hQ dX8_wordKind_97
              · refine lv_bipush (v := 7) hx hb dX8_wordKind_81 (by decide) ?_
                have hz_70 : (7 : Int32).toInt = 7 := by decide
                exact rp_iret hx hb hr hlocks hS (show (7 : Int32).toInt ≠ 2 from (by first | assumption | omega)) hQ dX8_wordKind_83
            · refine lv_bipush (v := 6) hx hb dX8_wordKind_67 (by decide) ?_
              have hz_71 : (6 : Int32).toInt = 6 := by decide
              exact rp_iret hx hb hr hlocks hS (show (6 : Int32).toInt ≠ 2 from (by first | assumption | omega)) hQ dX8_wordKind_69
          · refine lv_iconst (v := 5) hx hb dX8_wordKind_54 (by decide) ?_
            have hz_72 : (5 : Int32).toInt = 5 := by decide
            exact rp_iret hx hb hr hlocks hS (show (5 : Int32).toInt ≠ 2 from (by first | assumption | omega)) hQ dX8_wordKind_55
        · refine lv_iconst (v := 4) hx hb dX8_wordKind_41 (by decide) ?_
          have hz_73 : (4 : Int32).toInt = 4 := by decide
          exact rp_iret hx hb hr hlocks hS (show (4 : Int32).toInt ≠ 2 from (by first | assumption | omega)) hQ dX8_wordKind_42
      · refine lv_iconst (v := 3) hx hb dX8_wordKind_28 (by decide) ?_
        have hz_74 : (3 : Int32).toInt = 3 := by decide
        exact rp_iret hx hb hr hlocks hS (show (3 : Int32).toInt ≠ 2 from (by first | assumption | omega)) hQ dX8_wordKind_29
