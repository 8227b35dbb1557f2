theorem dX11_see_0 : decode cX11_see 0 = .ok (.iload_n 1, 1) := by decide +kernel
theorem dX11_see_1 : decode cX11_see 1 = .ok (.aload_n 0, 1) := by decide +kernel
theorem dX11_see_2 : decode cX11_see 2 = .ok (.getfield 110, 3) := by decide +kernel
theorem dX11_see_5 : decode cX11_see 5 = .ok (.if_icmp .ge 12, 3) := by decide +kernel
theorem dX11_see_8 : decode cX11_see 8 = .ok (.aload_n 0, 1) := by decide +kernel
theorem dX11_see_9 : decode cX11_see 9 = .ok (.getfield 17, 3) := by decide +kernel
theorem dX11_see_12 : decode cX11_see 12 = .ok (.iload_n 1, 1) := by decide +kernel
theorem dX11_see_13 : decode cX11_see 13 = .ok (.iaload, 1) := by decide +kernel
theorem dX11_see_14 : decode cX11_see 14 = .ok (.goto 4, 3) := by decide +kernel
theorem dX11_see_17 : decode cX11_see 17 = .ok (.iconst (-1), 1) := by decide +kernel
theorem dX11_see_18 : decode cX11_see 18 = .ok (.ireturn, 1) := by decide +kernel
theorem dX11_fault_0 : decode cX11_fault 0 = .ok (.iload_n 1, 1) := by decide +kernel
theorem dX11_fault_1 : decode cX11_fault 1 = .ok (.ifCond .ne 10, 3) := by decide +kernel
theorem dX11_fault_4 : decode cX11_fault 4 = .ok (.aload_n 0, 1) := by decide +kernel
theorem dX11_fault_5 : decode cX11_fault 5 = .ok (.getfield 20, 3) := by decide +kernel
theorem dX11_fault_8 : decode cX11_fault 8 = .ok (.goto 16, 3) := by decide +kernel
theorem dX11_fault_11 : decode cX11_fault 11 = .ok (.iload_n 1, 1) := by decide +kernel
theorem dX11_fault_12 : decode cX11_fault 12 = .ok (.iconst 1, 1) := by decide +kernel
theorem dX11_fault_13 : decode cX11_fault 13 = .ok (.if_icmp .ne 10, 3) := by decide +kernel
theorem dX11_fault_16 : decode cX11_fault 16 = .ok (.aload_n 0, 1) := by decide +kernel
theorem dX11_fault_17 : decode cX11_fault 17 = .ok (.getfield 24, 3) := by decide +kernel
theorem dX11_fault_20 : decode cX11_fault 20 = .ok (.goto 4, 3) := by decide +kernel
theorem dX11_fault_23 : decode cX11_fault 23 = .ok (.iconst (-1), 1) := by decide +kernel
theorem dX11_fault_24 : decode cX11_fault 24 = .ok (.ireturn, 1) := by decide +kernel
theorem dX11_isThere_0 : decode cX11_isThere 0 = .ok (.iload_n 1, 1) := by decide +kernel
theorem dX11_isThere_1 : decode cX11_isThere 1 = .ok (.ifCond .lt 47, 3) := by decide +kernel
theorem dX11_isThere_4 : decode cX11_isThere 4 = .ok (.iload_n 2, 1) := by decide +kernel
theorem dX11_isThere_5 : decode cX11_isThere 5 = .ok (.iconst 0, 1) := by decide +kernel
theorem dX11_isThere_6 : decode cX11_isThere 6 = .ok (.aload_n 0, 1) := by decide +kernel
theorem dX11_isThere_7 : decode cX11_isThere 7 = .ok (.getfield 8, 3) := by decide +kernel
theorem dX11_isThere_10 : decode cX11_isThere 10 = .ok (.iload_n 1, 1) := by decide +kernel
theorem dX11_isThere_11 : decode cX11_isThere 11 = .ok (.iaload, 1) := by decide +kernel
theorem dX11_isThere_12 : decode cX11_isThere 12 = .ok (.iconst 1, 1) := by decide +kernel
theorem dX11_isThere_13 : decode cX11_isThere 13 = .ok (.isub, 1) := by decide +kernel
theorem dX11_isThere_14 : decode cX11_isThere 14 = .ok (.invokestatic 100, 3) := by decide +kernel
theorem dX11_isThere_17 : decode cX11_isThere 17 = .ok (.ifCond .eq 31, 3) := by decide +kernel
theorem dX11_isThere_20 : decode cX11_isThere 20 = .ok (.iload_n 3, 1) := by decide +kernel
theorem dX11_isThere_21 : decode cX11_isThere 21 = .ok (.iconst 0, 1) := by decide +kernel
theorem dX11_isThere_22 : decode cX11_isThere 22 = .ok (.aload_n 0, 1) := by decide +kernel
theorem dX11_isThere_23 : decode cX11_isThere 23 = .ok (.getfield 93, 3) := by decide +kernel
theorem dX11_isThere_26 : decode cX11_isThere 26 = .ok (.iconst 1, 1) := by decide +kernel
theorem dX11_isThere_27 : decode cX11_isThere 27 = .ok (.isub, 1) := by decide +kernel
theorem dX11_isThere_28 : decode cX11_isThere 28 = .ok (.invokestatic 100, 3) := by decide +kernel
theorem dX11_isThere_31 : decode cX11_isThere 31 = .ok (.ifCond .eq 17, 3) := by decide +kernel
theorem dX11_isThere_34 : decode cX11_isThere 34 = .ok (.iload 4, 2) := by decide +kernel
theorem dX11_isThere_36 : decode cX11_isThere 36 = .ok (.iconst 0, 1) := by decide +kernel
theorem dX11_isThere_37 : decode cX11_isThere 37 = .ok (.iconst 1, 1) := by decide +kernel
theorem dX11_isThere_38 : decode cX11_isThere 38 = .ok (.invokestatic 100, 3) := by decide +kernel
theorem dX11_isThere_41 : decode cX11_isThere 41 = .ok (.ifCond .eq 7, 3) := by decide +kernel
theorem dX11_isThere_44 : decode cX11_isThere 44 = .ok (.iconst 1, 1) := by decide +kernel
theorem dX11_isThere_45 : decode cX11_isThere 45 = .ok (.goto 4, 3) := by decide +kernel
theorem dX11_isThere_48 : decode cX11_isThere 48 = .ok (.iconst 0, 1) := by decide +kernel
theorem dX11_isThere_49 : decode cX11_isThere 49 = .ok (.ireturn, 1) := by decide +kernel
theorem dX11_thrown_0 : decode cX11_thrown 0 = .ok (.aload_n 0, 1) := by decide +kernel
theorem dX11_thrown_1 : decode cX11_thrown 1 = .ok (.iload_n 1, 1) := by decide +kernel
theorem dX11_thrown_2 : decode cX11_thrown 2 = .ok (.invokevirtual 233, 3) := by decide +kernel
theorem dX11_thrown_5 : decode cX11_thrown 5 = .ok (.istore 6, 2) := by decide +kernel
theorem dX11_thrown_7 : decode cX11_thrown 7 = .ok (.aload_n 0, 1) := by decide +kernel
theorem dX11_thrown_8 : decode cX11_thrown 8 = .ok (.iload 6, 2) := by decide +kernel
theorem dX11_thrown_10 : decode cX11_thrown 10 = .ok (.iload_n 2, 1) := by decide +kernel
theorem dX11_thrown_11 : decode cX11_thrown 11 = .ok (.iload_n 3, 1) := by decide +kernel
theorem dX11_thrown_12 : decode cX11_thrown 12 = .ok (.iload 4, 2) := by decide +kernel
theorem dX11_thrown_14 : decode cX11_thrown 14 = .ok (.invokevirtual 236, 3) := by decide +kernel
theorem dX11_thrown_17 : decode cX11_thrown 17 = .ok (.ifCond .eq 13, 3) := by decide +kernel
theorem dX11_thrown_20 : decode cX11_thrown 20 = .ok (.iload 5, 2) := by decide +kernel
theorem dX11_thrown_22 : decode cX11_thrown 22 = .ok (.iconst 0, 1) := by decide +kernel
theorem dX11_thrown_23 : decode cX11_thrown 23 = .ok (.iconst 1, 1) := by decide +kernel
theorem dX11_thrown_24 : decode cX11_thrown 24 = .ok (.invokestatic 100, 3) := by decide +kernel
theorem dX11_thrown_27 : decode cX11_thrown 27 = .ok (.ifCond .ne 5, 3) := by decide +kernel
theorem dX11_thrown_30 : decode cX11_thrown 30 = .ok (.iconst (-1), 1) := by decide +kernel
theorem dX11_thrown_31 : decode cX11_thrown 31 = .ok (.ireturn, 1) := by decide +kernel
theorem dX11_thrown_32 : decode cX11_thrown 32 = .ok (.aload_n 0, 1) := by decide +kernel
theorem dX11_thrown_33 : decode cX11_thrown 33 = .ok (.iload 6, 2) := by decide +kernel
theorem dX11_thrown_35 : decode cX11_thrown 35 = .ok (.iload_n 2, 1) := by decide +kernel
theorem dX11_thrown_36 : decode cX11_thrown 36 = .ok (.iload_n 3, 1) := by decide +kernel
theorem dX11_thrown_37 : decode cX11_thrown 37 = .ok (.iload 4, 2) := by decide +kernel
theorem dX11_thrown_39 : decode cX11_thrown 39 = .ok (.invokevirtual 239, 3) := by decide +kernel
theorem dX11_thrown_42 : decode cX11_thrown 42 = .ok (.istore 7, 2) := by decide +kernel
theorem dX11_thrown_44 : decode cX11_thrown 44 = .ok (.iload 5, 2) := by decide +kernel
theorem dX11_thrown_46 : decode cX11_thrown 46 = .ok (.ifCond .ne 8, 3) := by decide +kernel
theorem dX11_thrown_49 : decode cX11_thrown 49 = .ok (.iload 7, 2) := by decide +kernel
theorem dX11_thrown_51 : decode cX11_thrown 51 = .ok (.goto 22, 3) := by decide +kernel
theorem dX11_thrown_54 : decode cX11_thrown 54 = .ok (.iload 7, 2) := by decide +kernel
theorem dX11_thrown_56 : decode cX11_thrown 56 = .ok (.ifCond .ne 7, 3) := by decide +kernel
theorem dX11_thrown_59 : decode cX11_thrown 59 = .ok (.iconst (-1), 1) := by decide +kernel
theorem dX11_thrown_60 : decode cX11_thrown 60 = .ok (.goto 13, 3) := by decide +kernel
theorem dX11_thrown_63 : decode cX11_thrown 63 = .ok (.aload_n 0, 1) := by decide +kernel
theorem dX11_thrown_64 : decode cX11_thrown 64 = .ok (.iload 6, 2) := by decide +kernel
theorem dX11_thrown_66 : decode cX11_thrown 66 = .ok (.iload_n 2, 1) := by decide +kernel
theorem dX11_thrown_67 : decode cX11_thrown 67 = .ok (.iload_n 3, 1) := by decide +kernel
theorem dX11_thrown_68 : decode cX11_thrown 68 = .ok (.iload 4, 2) := by decide +kernel
theorem dX11_thrown_70 : decode cX11_thrown 70 = .ok (.invokevirtual 243, 3) := by decide +kernel
theorem dX11_thrown_73 : decode cX11_thrown 73 = .ok (.ireturn, 1) := by decide +kernel
theorem dX11_heightOf_0 : decode cX11_heightOf 0 = .ok (.aload_n 0, 1) := by decide +kernel
theorem dX11_heightOf_1 : decode cX11_heightOf 1 = .ok (.getfield 8, 3) := by decide +kernel
theorem dX11_heightOf_4 : decode cX11_heightOf 4 = .ok (.iload_n 1, 1) := by decide +kernel
theorem dX11_heightOf_5 : decode cX11_heightOf 5 = .ok (.iconst 1, 1) := by decide +kernel
theorem dX11_heightOf_6 : decode cX11_heightOf 6 = .ok (.iadd, 1) := by decide +kernel
theorem dX11_heightOf_7 : decode cX11_heightOf 7 = .ok (.iload_n 2, 1) := by decide +kernel
theorem dX11_heightOf_8 : decode cX11_heightOf 8 = .ok (.iadd, 1) := by decide +kernel
theorem dX11_heightOf_9 : decode cX11_heightOf 9 = .ok (.iaload, 1) := by decide +kernel
theorem dX11_heightOf_10 : decode cX11_heightOf 10 = .ok (.iconst 4, 1) := by decide +kernel
theorem dX11_heightOf_11 : decode cX11_heightOf 11 = .ok (.idiv, 1) := by decide +kernel
theorem dX11_heightOf_12 : decode cX11_heightOf 12 = .ok (.ireturn, 1) := by decide +kernel
theorem dX11_score_0 : decode cX11_score 0 = .ok (.iload_n 1, 1) := by decide +kernel
theorem dX11_score_1 : decode cX11_score 1 = .ok (.iconst 0, 1) := by decide +kernel
theorem dX11_score_2 : decode cX11_score 2 = .ok (.aload_n 0, 1) := by decide +kernel
theorem dX11_score_3 : decode cX11_score 3 = .ok (.getfield 310, 3) := by decide +kernel
theorem dX11_score_6 : decode cX11_score 6 = .ok (.iconst 1, 1) := by decide +kernel
theorem dX11_score_7 : decode cX11_score 7 = .ok (.isub, 1) := by decide +kernel
theorem dX11_score_8 : decode cX11_score 8 = .ok (.invokestatic 100, 3) := by decide +kernel
theorem dX11_score_11 : decode cX11_score 11 = .ok (.ifCond .ne 5, 3) := by decide +kernel
theorem dX11_score_14 : decode cX11_score 14 = .ok (.iconst (-1), 1) := by decide +kernel
theorem dX11_score_15 : decode cX11_score 15 = .ok (.ireturn, 1) := by decide +kernel
theorem dX11_score_16 : decode cX11_score 16 = .ok (.iload_n 2, 1) := by decide +kernel
theorem dX11_score_17 : decode cX11_score 17 = .ok (.ifCond .ne 12, 3) := by decide +kernel
theorem dX11_score_20 : decode cX11_score 20 = .ok (.aload_n 0, 1) := by decide +kernel
theorem dX11_score_21 : decode cX11_score 21 = .ok (.getfield 81, 3) := by decide +kernel
theorem dX11_score_24 : decode cX11_score 24 = .ok (.iload_n 1, 1) := by decide +kernel
theorem dX11_score_25 : decode cX11_score 25 = .ok (.iaload, 1) := by decide +kernel
theorem dX11_score_26 : decode cX11_score 26 = .ok (.goto 18, 3) := by decide +kernel
theorem dX11_score_29 : decode cX11_score 29 = .ok (.iload_n 2, 1) := by decide +kernel
theorem dX11_score_30 : decode cX11_score 30 = .ok (.iconst 1, 1) := by decide +kernel
theorem dX11_score_31 : decode cX11_score 31 = .ok (.if_icmp .ne 12, 3) := by decide +kernel
theorem dX11_score_34 : decode cX11_score 34 = .ok (.aload_n 0, 1) := by decide +kernel
theorem dX11_score_35 : decode cX11_score 35 = .ok (.getfield 84, 3) := by decide +kernel
theorem dX11_score_38 : decode cX11_score 38 = .ok (.iload_n 1, 1) := by decide +kernel
theorem dX11_score_39 : decode cX11_score 39 = .ok (.iaload, 1) := by decide +kernel
theorem dX11_score_40 : decode cX11_score 40 = .ok (.goto 4, 3) := by decide +kernel
theorem dX11_score_43 : decode cX11_score 43 = .ok (.iconst (-1), 1) := by decide +kernel
theorem dX11_score_44 : decode cX11_score 44 = .ok (.ireturn, 1) := by decide +kernel
set_option maxRecDepth 20000 in
theorem ggX11_isThere_X11_isIn : GoodIn wsX11_isThere wsX11_isIn := goodIn_r _ [6] (by decide +kernel) (by decide +kernel)
set_option maxRecDepth 20000 in
theorem gX11_isThere_X11_isIn : GoodIn wsX11_isThere (va_wsS RX11 100 yX11_isIn wsX11_isIn) := goodIn_app (goodIn_of _ (by decide +kernel)) ggX11_isThere_X11_isIn
set_option maxRecDepth 20000 in
theorem ggX11_thrown_X11_rowOf : GoodIn wsX11_thrown wsX11_rowOf := goodIn_r _ [5, 6, 7, 8, 4, 9, 10, 11, 12, 13, 14, 15, 16, 17, 31, 32, 33, 34, 35, 36, 37, 38, 39, 40, 41, 42, 43, 44, 45, 46, 47, 48, 49, 50, 51, 52, 53, 54, 55, 56, 57, 58, 59, 60, 61, 62, 63, 64, 65, 66, 67, 68, 69, 70, 71, 72, 73, 74, 75, 76, 77] (by decide +kernel) (by decide +kernel)
set_option maxRecDepth 20000 in
theorem gX11_thrown_X11_rowOf : GoodIn wsX11_thrown (wsV RX11 233 RX11 yX11_rowOf wsX11_rowOf) := goodIn_app (goodIn_of _ (by decide +kernel)) ggX11_thrown_X11_rowOf
set_option maxRecDepth 20000 in
theorem ggX11_thrown_X11_isThere : GoodIn wsX11_thrown wsX11_isThere := goodIn_r _ [21, 14, 22, 7, 8, 4, 9, 31, 32, 33, 34, 35, 36, 37, 38, 39, 40, 41, 42, 43, 44, 45, 46, 47, 48, 49, 50, 51, 52, 53, 54, 55, 56, 57, 58, 59, 60, 61, 62, 63, 64, 65, 66, 67, 68, 69, 70, 71, 72, 73, 74, 75, 76, 77] (by decide +kernel) (by decide +kernel)
set_option maxRecDepth 20000 in
theorem gX11_thrown_X11_isThere : GoodIn wsX11_thrown (wsV RX11 236 RX11 yX11_isThere wsX11_isThere) := goodIn_app (goodIn_of _ (by decide +kernel)) ggX11_thrown_X11_isThere
set_option maxRecDepth 20000 in
theorem ggX11_thrown_X11_isIn : GoodIn wsX11_thrown wsX11_isIn := goodIn_r _ [9] (by decide +kernel) (by decide +kernel)
set_option maxRecDepth 20000 in
theorem gX11_thrown_X11_isIn : GoodIn wsX11_thrown (va_wsS RX11 100 yX11_isIn wsX11_isIn) := goodIn_app (goodIn_of _ (by decide +kernel)) ggX11_thrown_X11_isIn
set_option maxRecDepth 20000 in
theorem ggX11_thrown_X11_heightAt : GoodIn wsX11_thrown wsX11_heightAt := goodIn_r _ [26, 14, 31, 32, 33, 34, 35, 36, 37, 38, 39, 40, 41, 42, 43, 44, 45, 46, 47, 48, 49, 50, 51, 52, 53, 54, 55, 56, 57, 58, 59, 60, 61, 62, 63, 64, 65, 66, 67, 68, 69, 70, 71, 72, 73, 74, 75, 76, 77] (by decide +kernel) (by decide +kernel)
set_option maxRecDepth 20000 in
theorem gX11_thrown_X11_heightAt : GoodIn wsX11_thrown (wsV RX11 239 RX11 yX11_heightAt wsX11_heightAt) := goodIn_app (goodIn_of _ (by decide +kernel)) ggX11_thrown_X11_heightAt
set_option maxRecDepth 20000 in
theorem ggX11_thrown_X11_toAt : GoodIn wsX11_thrown wsX11_toAt := goodIn_r _ [30, 14, 31, 32, 33, 34, 35, 36, 37, 38, 39, 40, 41, 42, 43, 44, 45, 46, 47, 48, 49, 50, 51, 52, 53, 54, 55, 56, 57, 58, 59, 60, 61, 62, 63, 64, 65, 66, 67, 68, 69, 70, 71, 72, 73, 74, 75, 76, 77] (by decide +kernel) (by decide +kernel)
set_option maxRecDepth 20000 in
theorem gX11_thrown_X11_toAt : GoodIn wsX11_thrown (wsV RX11 243 RX11 yX11_toAt wsX11_toAt) := goodIn_app (goodIn_of _ (by decide +kernel)) ggX11_thrown_X11_toAt
set_option maxRecDepth 20000 in
theorem ggX11_score_X11_isIn : GoodIn wsX11_score wsX11_isIn := goodIn_r _ [7] (by decide +kernel) (by decide +kernel)
set_option maxRecDepth 20000 in
theorem gX11_score_X11_isIn : GoodIn wsX11_score (va_wsS RX11 100 yX11_isIn wsX11_isIn) := goodIn_app (goodIn_of _ (by decide +kernel)) ggX11_score_X11_isIn
/-- the end of a method that changes nothing and answers some int -/
def QN (sz : Nat) : Array Value → State → Outcome → State → Prop := fun _ st oc t => (∃ r : Int32, oc = .returned (some (.int r))) ∧ va_F (va_A [] sz) st t
section HLP2
variable {p : Program} {l : Launch} {e : Env} {R : Room} {s : State} {m : MethodId} {args : Array Value} {below : List Frame} {meth : Method} {c : Code} {H : Heap} {locs : List Loc} {cells slots : Nat} {Q : State → Prop}
variable {cc : ByteArray} {pc : Nat} {ls : Array Slot} {rest st0 : List Value} {D : va_G} {cl : List vw_C} {A : Nat → Prop} {a : Nat} {tys : List (ClassId × FieldType)} {ws wc wr : va_W} {H0 : Heap} {av : Array Value} {mc ms : Nat}

theorem roN (hr : va_Run p l e R s m args below meth c H locs cells slots 0 0 (F0 m pc ls st0) rest (QN H.size av) (va_A [] H.size)) (hS : va_S A H0 H locs) (hA : ∀ q, H0.size ≤ q → A q) (hP : va_P D cl ws H)
    (kk : ∀ (r : Int32) (H1 : Heap) (locs1 : List Loc), va_P D cl ws H1 → va_S A H0 H1 locs1 → W p l e R s m args below meth c H1 locs1 cells slots Q (F0 m (pc + 3) ls (.int r :: rest))) : W p l e R s m args below meth c H locs cells slots Q (F0 m pc ls st0) := by
  intro T hT X
  obtain ⟨v', st₀, t, T', L, h0, X', hL, e1, e2, ⟨⟨r, hv⟩, hz, hk⟩, st⟩ := hr T hT X
  cases hv
  rw [h0] at hz hk
  have hk2 : ∀ q : Nat, q < H.size → T'.heap[q]? = H[q]? := fun q h => by
    rw [e1]
    refine hk q h (fun z => ?_)
    rcases z with ⟨k, e, z⟩ | z
    · simp at z
    · omega
  have hz2 : H.size ≤ T'.heap.size := by rw [e1]; exact hz
  obtain ⟨t2, a1, b1⟩ := kk r T'.heap (locs ++ L) (hP.kept (fun k q h => hk2 q.1 (hP k q h).lt))
    ⟨Nat.le_trans hS.1 hz2, fun q h1 h2 => by rw [hk2 q (Nat.lt_of_lt_of_le h1 hS.1)]; exact hS.2.1 q h1 h2, fun q hq => by
      rcases List.mem_append.mp hq with h | h
      · exact hS.2.2 q h
      · rcases hL q h with ⟨k, e, z⟩ | z
        · simp at z
        · exact hA _ (Nat.le_trans hS.1 z)⟩ T' rfl X'
  exact ⟨t2, st t2 a1, b1⟩
theorem rn_iret {v : Int32} (hx : p.tables.exec = Jvm.exec) (hb : c.code = cc) (hr : meth.sig.returnType = some .int) (hlocks : meth.locks = false) (hS : va_S (va_A [] s.heap.size) s.heap H locs) (hQ : Q = MQ below (QN s.heap.size) args s 0 0 (va_A [] s.heap.size)) (hdg : decode cc pc = .ok (.ireturn, 1)) : W p l e R s m args below meth c H locs 0 0 Q (F0 m pc ls [.int v]) := by
  rw [hQ]
  exact W.iret hx hb hr (fun t ht hW => ⟨⟨v, rfl⟩, hS.F ht⟩) hS.2.2 hdg hlocks
end HLP2
theorem jx_rg {x : Int32} {lo hi : Nat} (hh : hi < 2 ^ 30) (h1 : ¬ x < nI lo) (h2 : ¬ nI hi < x) (hlo : lo < 2 ^ 30) : ∃ j, lo ≤ j ∧ j ≤ hi ∧ x = nI j := by
  have h0 : ¬ x < 0 := fun q => h1 (Int32.lt_of_lt_of_le q (nI_pos' (by omega)))
  obtain ⟨j, hj, e⟩ := nI_of h0
  subst e
  exact ⟨j, Nat.le_of_not_lt fun q => h1 (nI_lt q (by omega)), Nat.le_of_not_lt fun q => h2 (nI_lt q hj), rfl⟩
theorem in_of {x : Int32} {lo hi : Nat} (hh : hi < 2 ^ 30) (hl : lo < 2 ^ 30) (h : ¬ inI x (nI lo) (nI hi) = 0) : ∃ k, lo ≤ k ∧ k ≤ hi ∧ x = nI k := by
  unfold inI at h
  by_cases h1 : x < nI lo
  · rw [if_pos h1] at h; exact absurd rfl h
  · rw [if_neg h1] at h
    by_cases h2 : nI hi < x
    · rw [if_pos h2] at h; exact absurd rfl h
    · exact jx_rg hh h1 h2 hl
def thI (n : Int32) (jn : Nat) (a b d : Int32) : Int32 := if inI a 0 (n - 1) = 0 then 0 else if inI b 0 (nI jn - 1) = 0 then 0 else if inI d 0 1 = 0 then 0 else 1
theorem thI_spec {n jn : Nat} {a b d : Int32} (hn : 1 ≤ n) (hn2 : n ≤ 24) (hj : 1 ≤ jn) (hj3 : jn ≤ 3) (h : ¬ thI (nI n) jn a b d = 0) : ∃ x y z, x < n ∧ y < jn ∧ z < 2 ∧ a = nI x ∧ b = nI y ∧ d = nI z := by
  unfold thI at h
  by_cases h1 : inI a 0 (nI n - 1) = 0
  · rw [if_pos h1] at h; exact absurd rfl h
  · rw [if_neg h1] at h
    by_cases h2 : inI b 0 (nI jn - 1) = 0
    · rw [if_pos h2] at h; exact absurd rfl h
    · rw [if_neg h2] at h
      by_cases h3 : inI d 0 1 = 0
      · rw [if_pos h3] at h; exact absurd rfl h
      · have e1 : nI n - 1 = nI (n - 1) := by have := nI_pred (n - 1); rwa [Nat.sub_add_cancel hn] at this
        have e2 : nI jn - 1 = nI (jn - 1) := by have := nI_pred (jn - 1); rwa [Nat.sub_add_cancel hj] at this
        rw [e1] at h1
        rw [e2] at h2
        obtain ⟨x, -, x1, x2⟩ := in_of (lo := 0) (hi := n - 1) (by omega) (by decide) h1
        obtain ⟨y, -, y1, y2⟩ := in_of (lo := 0) (hi := jn - 1) (by omega) (by decide) h2
        obtain ⟨z, -, z1, z2⟩ := in_of (lo := 0) (hi := 1) (by decide) (by decide) h3
        exact ⟨x, y, z, by omega, by omega, by omega, x2, y2, z2⟩
set_option maxRecDepth 100000 in
set_option maxHeartbeats 4000000 in
theorem c_isThereG (l : Launch) (D : va_G) (cI cR cM : ClassId) (sz : Nat) {jn : Nat} (mm : Nat) (q : Nat → Nat) (v : Nat → Int32) (F : Nat → Nat → Int32) {r : Nat} (hr9 : r + 150 ≤ 73200) (a b d : Int32) : Met l yX11_isThere wsX11_isThere ({ frames := 1, cells := 0, slots := 0, locals := 22 }) (P0 D cI cR cM [.ref mm, .int (nI r), .int a, .int b, .int d] sz (mW mm q jn cI v F)) (QE (some (.int (thI (F 0 r) jn a b d))) sz) 0 0 (va_A [] sz) := by
  refine go (cc := cX11_isThere) (maxL := 5) (ret := (some .boolean)) (by decide) rfl (Nat.le_of_ble_eq_true rfl) ?_
  intro p e s m below meth c ls args Q hQ hsz hx hb hr hml hts hown hlocks hnm hP hK hD hl
  subst hsz
  have hS : va_S (va_A [] s.heap.size) s.heap s.heap [] := va_S.rf
  have hA : ∀ q, s.heap.size ≤ q → va_A [] s.heap.size q := fun q h => Or.inr h
  have hl : lv_has ls 5 [(0, .ref mm), (1, .int (nI r)), (2, .int a), (3, .int b), (4, .int d)] := hl
  refine lv_iload_n hx hb dX11_isThere_0 rfl (lv_at hl 1 rfl) ?_
  refine lv_if_lt (tgt := 48) hx hb dX11_isThere_1 (by decide) (fun c1 => absurd c1 (nI_pos (by omega))) (fun c1 => ?_)
  refine lv_iload_n hx hb dX11_isThere_4 rfl (lv_at hl 2 rfl) ?_
  refine lv_iconst (v := 0) hx hb dX11_isThere_5 (by decide) ?_
  refine lv_aload_n hx hb dX11_isThere_6 rfl (lv_at hl 0 rfl) ?_
  refine va_get (D := D) (ci := 11) (v := .ref (q 0)) (C := RX11) (T := TX11) (N := 47) hx hb hts (by decide +kernel) hown hK.1 hP 0 rfl rfl 1 (by decide) (hts (.fieldLink RX11 8 "JugglingHallModel" "rows" "[I") (by decide +kernel)) (fun _ h9 => h9) rfl dX11_isThere_7 ?_
  refine lv_iload_n hx hb dX11_isThere_10 rfl (lv_at hl 1 rfl) ?_
  refine ald_n (k := r) hx hb hK.1 hP 1 0 rfl rfl (by omega) (by decide) dX11_isThere_11 ?_
  refine lv_iconst (v := 1) hx hb dX11_isThere_12 (by decide) ?_
  refine lv_isub hx hb dX11_isThere_13 ?_
  refine ro (va_runS (As := [.int a, .int 0, .int (((F 0) r) - 1)]) (rest := []) ⟨hx, hb, hml, hown, hts⟩ (c_isIn l D cI cR cM _ a 0 (((F 0) r) - 1)) (va_cwS 3 hts gX11_isThere_X11_isIn rfl rfl rfl (by decide +kernel) ⟨Nat.le_of_ble_eq_true rfl, Nat.le_of_ble_eq_true rfl⟩) (pre_S hK va_P_nil (va_D_nil (A := fun _ => True))) rfl rfl hl.1 rfl (lv_room (Nat.le_of_ble_eq_true rfl)) dX11_isThere_14 ⟨Nat.le_of_ble_eq_true rfl, Nat.le_of_ble_eq_true rfl⟩) hS hA hP (fun H locs hP hS => ?_)
  refine lv_if_eq (tgt := 48) hx hb dX11_isThere_17 (by decide) (fun c17 => ?_) (fun c17 => ?_)
  · refine lv_iconst (v := 0) hx hb dX11_isThere_48 (by decide) ?_
    exact ro_zret hx hb hr hlocks hS (by decide) (by unfold thI; rw [if_pos c17]) hQ dX11_isThere_49
  · refine lv_iload_n hx hb dX11_isThere_20 rfl (lv_at hl 3 rfl) ?_
    refine lv_iconst (v := 0) hx hb dX11_isThere_21 (by decide) ?_
    refine lv_aload_n hx hb dX11_isThere_22 rfl (lv_at hl 0 rfl) ?_
    refine va_get (D := D) (ci := 11) (v := .int (nI jn)) (C := RX11) (T := TX11) (N := 47) hx hb hts (by decide +kernel) hown hK.1 hP 0 rfl rfl 0 (by decide) (hts (.fieldLink RX11 93 "JugglingHallModel" "jugglers" "I") (by decide +kernel)) (fun _ h9 => h9) rfl dX11_isThere_23 ?_
    refine lv_iconst (v := 1) hx hb dX11_isThere_26 (by decide) ?_
    refine lv_isub hx hb dX11_isThere_27 ?_
    refine ro (va_runS (As := [.int b, .int 0, .int ((nI jn) - 1)]) (rest := []) ⟨hx, hb, hml, hown, hts⟩ (c_isIn l D cI cR cM _ b 0 ((nI jn) - 1)) (va_cwS 3 hts gX11_isThere_X11_isIn rfl rfl rfl (by decide +kernel) ⟨Nat.le_of_ble_eq_true rfl, Nat.le_of_ble_eq_true rfl⟩) (pre_S hK va_P_nil (va_D_nil (A := fun _ => True))) rfl rfl hl.1 rfl (lv_room (Nat.le_of_ble_eq_true rfl)) dX11_isThere_28 ⟨Nat.le_of_ble_eq_true rfl, Nat.le_of_ble_eq_true rfl⟩) hS hA hP (fun H locs hP hS => ?_)
    refine lv_if_eq (tgt := 48) hx hb dX11_isThere_31 (by decide) (fun c31 => ?_) (fun c31 => ?_)
    · refine lv_iconst (v := 0) hx hb dX11_isThere_48 (by decide) ?_
      exact ro_zret hx hb hr hlocks hS (by decide) (by unfold thI; rw [if_neg c17, if_pos c31]) hQ dX11_isThere_49
    · refine lv_iload hx hb dX11_isThere_34 (lv_at hl 4 rfl) ?_
      refine lv_iconst (v := 0) hx hb dX11_isThere_36 (by decide) ?_
      refine lv_iconst (v := 1) hx hb dX11_isThere_37 (by decide) ?_
      refine ro (va_runS (As := [.int d, .int 0, .int 1]) (rest := []) ⟨hx, hb, hml, hown, hts⟩ (c_isIn l D cI cR cM _ d 0 1) (va_cwS 3 hts gX11_isThere_X11_isIn rfl rfl rfl (by decide +kernel) ⟨Nat.le_of_ble_eq_true rfl, Nat.le_of_ble_eq_true rfl⟩) (pre_S hK va_P_nil (va_D_nil (A := fun _ => True))) rfl rfl hl.1 rfl (lv_room (Nat.le_of_ble_eq_true rfl)) dX11_isThere_38 ⟨Nat.le_of_ble_eq_true rfl, Nat.le_of_ble_eq_true rfl⟩) hS hA hP (fun H locs hP hS => ?_)
      refine lv_if_eq (tgt := 48) hx hb dX11_isThere_41 (by decide) (fun c41 => ?_) (fun c41 => ?_)
      · refine lv_iconst (v := 0) hx hb dX11_isThere_48 (by decide) ?_
        exact ro_zret hx hb hr hlocks hS (by decide) (by unfold thI; rw [if_neg c17, if_neg c31, if_pos c41]) hQ dX11_isThere_49
      · refine lv_iconst (v := 1) hx hb dX11_isThere_44 (by decide) ?_
        refine lv_goto (tgt := 49) hx hb dX11_isThere_45 (by decide) ?_
        exact ro_zret hx hb hr hlocks hS (by decide) (by unfold thI; rw [if_neg c17, if_neg c31, if_neg c41]) hQ dX11_isThere_49
set_option maxRecDepth 100000 in
set_option maxHeartbeats 4000000 in
theorem c_isThereN (l : Launch) (D : va_G) (cI cR cM : ClassId) (sz : Nat) {jn : Nat} (mm : Nat) (q : Nat → Nat) (v : Nat → Int32) (F : Nat → Nat → Int32) (a b d : Int32) : Met l yX11_isThere wsX11_isThere ({ frames := 1, cells := 0, slots := 0, locals := 22 }) (P0 D cI cR cM [.ref mm, .int (-1), .int a, .int b, .int d] sz (mW mm q jn cI v F)) (QE (some (.int 0)) sz) 0 0 (va_A [] sz) := by
  refine go (cc := cX11_isThere) (maxL := 5) (ret := (some .boolean)) (by decide) rfl (Nat.le_of_ble_eq_true rfl) ?_
  intro p e s m below meth c ls args Q hQ hsz hx hb hr hml hts hown hlocks hnm hP hK hD hl
  subst hsz
  have hS : va_S (va_A [] s.heap.size) s.heap s.heap [] := va_S.rf
  have hA : ∀ q, s.heap.size ≤ q → va_A [] s.heap.size q := fun q h => Or.inr h
  have hl : lv_has ls 5 [(0, .ref mm), (1, .int (-1)), (2, .int a), (3, .int b), (4, .int d)] := hl
  refine lv_iload_n hx hb dX11_isThere_0 rfl (lv_at hl 1 rfl) ?_
  refine lv_if_lt (tgt := 48) hx hb dX11_isThere_1 (by decide) (fun c1 => ?_) (fun c1 => absurd (by decide) c1)
  refine lv_iconst (v := 0) hx hb dX11_isThere_48 (by decide) ?_
  exact ro_zret hx hb hr hlocks hS (by decide) (rfl) hQ dX11_isThere_49
set_option maxRecDepth 100000 in
set_option maxHeartbeats 4000000 in
theorem c_thrownG (l : Launch) (D : va_G) (cI cR cM : ClassId) (sz : Nat) {jn : Nat} (mm : Nat) (q : Nat → Nat) (v : Nat → Int32) (F : Nat → Nat → Int32) {lk : Nat} (hlk : lk ≤ 60) (elk : v 1 = nI lk) (hR : MRows jn (F 0)) (hj1 : 1 ≤ jn) (hj3 : jn ≤ 3) (i0 i1 i2 i3 i4 : Int32) : Met l yX11_thrown wsX11_thrown ({ frames := 3, cells := 0, slots := 0, locals := 65 }) (P0 D cI cR cM [.ref mm, .int i0, .int i1, .int i2, .int i3, .int i4] sz (mW mm q jn cI v F)) (QN sz) 0 0 (va_A [] sz) := by
  refine go (cc := cX11_thrown) (maxL := 8) (ret := (some .int)) (by decide) rfl (Nat.le_of_ble_eq_true rfl) ?_
  intro p e s m below meth c ls args Q hQ hsz hx hb hr hml hts hown hlocks hnm hP hK hD hl
  subst hsz
  have hS : va_S (va_A [] s.heap.size) s.heap s.heap [] := va_S.rf
  have hA : ∀ q, s.heap.size ≤ q → va_A [] s.heap.size q := fun q h => Or.inr h
  have hl : lv_has ls 8 [(0, .ref mm), (1, .int i0), (2, .int i1), (3, .int i2), (4, .int i3), (5, .int i4)] := hl
  refine lv_aload_n hx hb dX11_thrown_0 rfl (lv_at hl 0 rfl) ?_
  refine lv_iload_n hx hb dX11_thrown_1 rfl (lv_at hl 1 rfl) ?_
  refine ro (va_runV (As := [.int i0]) (rest := []) ⟨hx, hb, hml, hown, hts⟩ (c_rowOfG l D cI cR cM _ mm q v F hlk elk i0) (cwV 1 hts gX11_thrown_X11_rowOf rfl rfl rfl (by decide +kernel) ⟨Nat.le_of_ble_eq_true rfl, Nat.le_of_ble_eq_true rfl⟩) (pre_V hK hP hD 0 11 rfl rfl) rfl rfl hl.1 rfl (lv_room (Nat.le_of_ble_eq_true rfl)) dX11_thrown_2 ⟨Nat.le_of_ble_eq_true rfl, Nat.le_of_ble_eq_true rfl⟩) hS hA hP (fun H locs hP hS => ?_)
  rcases rowI_spec hR hlk i0 with e0 | ⟨r9, n9, e0, hr9, hn1, hn2, hn3, -⟩
  · refine lv_eqi (y := (-1)) (e0) ?_
    refine lv_istore (lv' := [(6, .int (-1)), (0, .ref mm), (1, .int i0), (2, .int i1), (3, .int i2), (4, .int i3), (5, .int i4)]) hx hb dX11_thrown_5 hl (by decide) rfl (fun ls hl => ?_)
    refine lv_aload_n hx hb dX11_thrown_7 rfl (lv_at hl 1 rfl) ?_
    refine lv_iload hx hb dX11_thrown_8 (lv_at hl 0 rfl) ?_
    refine lv_iload_n hx hb dX11_thrown_10 rfl (lv_at hl 3 rfl) ?_
    refine lv_iload_n hx hb dX11_thrown_11 rfl (lv_at hl 4 rfl) ?_
    refine lv_iload hx hb dX11_thrown_12 (lv_at hl 5 rfl) ?_
    refine ro (va_runV (As := [.int (-1), .int i1, .int i2, .int i3]) (rest := []) ⟨hx, hb, hml, hown, hts⟩ (c_isThereN l D cI cR cM _ mm q v F i1 i2 i3) (cwV 4 hts gX11_thrown_X11_isThere rfl rfl rfl (by decide +kernel) ⟨Nat.le_of_ble_eq_true rfl, Nat.le_of_ble_eq_true rfl⟩) (pre_V hK hP hD 0 11 rfl rfl) rfl rfl hl.1 rfl (lv_room (Nat.le_of_ble_eq_true rfl)) dX11_thrown_14 ⟨Nat.le_of_ble_eq_true rfl, Nat.le_of_ble_eq_true rfl⟩) hS hA hP (fun H locs hP hS => ?_)
    refine lv_if_eq (tgt := 30) hx hb dX11_thrown_17 (by decide) (fun c17 => ?_) (fun c17 => absurd (by decide) c17)
    refine lv_iconst (v := (-1)) hx hb dX11_thrown_30 (by decide) ?_
    exact rn_iret hx hb hr hlocks hS hQ dX11_thrown_31
  · refine lv_eqi (y := nI r9) (e0) ?_
    refine lv_istore (lv' := [(6, .int (nI r9)), (0, .ref mm), (1, .int i0), (2, .int i1), (3, .int i2), (4, .int i3), (5, .int i4)]) hx hb dX11_thrown_5 hl (by decide) rfl (fun ls hl => ?_)
    refine lv_aload_n hx hb dX11_thrown_7 rfl (lv_at hl 1 rfl) ?_
    refine lv_iload hx hb dX11_thrown_8 (lv_at hl 0 rfl) ?_
    refine lv_iload_n hx hb dX11_thrown_10 rfl (lv_at hl 3 rfl) ?_
    refine lv_iload_n hx hb dX11_thrown_11 rfl (lv_at hl 4 rfl) ?_
    refine lv_iload hx hb dX11_thrown_12 (lv_at hl 5 rfl) ?_
    refine ro (va_runV (As := [.int (nI r9), .int i1, .int i2, .int i3]) (rest := []) ⟨hx, hb, hml, hown, hts⟩ (c_isThereG l D cI cR cM _ mm q v F hr9 i1 i2 i3) (cwV 4 hts gX11_thrown_X11_isThere rfl rfl rfl (by decide +kernel) ⟨Nat.le_of_ble_eq_true rfl, Nat.le_of_ble_eq_true rfl⟩) (pre_V hK hP hD 0 11 rfl rfl) rfl rfl hl.1 rfl (lv_room (Nat.le_of_ble_eq_true rfl)) dX11_thrown_14 ⟨Nat.le_of_ble_eq_true rfl, Nat.le_of_ble_eq_true rfl⟩) hS hA hP (fun H locs hP hS => ?_)
    refine lv_if_eq (tgt := 30) hx hb dX11_thrown_17 (by decide) (fun c17 => ?_) (fun c17 => ?_)
    · refine lv_iconst (v := (-1)) hx hb dX11_thrown_30 (by decide) ?_
      exact rn_iret hx hb hr hlocks hS hQ dX11_thrown_31
    · rw [hn3] at c17
      obtain ⟨x9, y9, z9, hx9, hy9, hz9, rfl, rfl, rfl⟩ := thI_spec hn1 hn2 hj1 hj3 c17
      refine lv_iload hx hb dX11_thrown_20 (lv_at hl 6 rfl) ?_
      refine lv_iconst (v := 0) hx hb dX11_thrown_22 (by decide) ?_
      refine lv_iconst (v := 1) hx hb dX11_thrown_23 (by decide) ?_
      refine ro (va_runS (As := [.int i4, .int 0, .int 1]) (rest := []) ⟨hx, hb, hml, hown, hts⟩ (c_isIn l D cI cR cM _ i4 0 1) (va_cwS 3 hts gX11_thrown_X11_isIn rfl rfl rfl (by decide +kernel) ⟨Nat.le_of_ble_eq_true rfl, Nat.le_of_ble_eq_true rfl⟩) (pre_S hK va_P_nil (va_D_nil (A := fun _ => True))) rfl rfl hl.1 rfl (lv_room (Nat.le_of_ble_eq_true rfl)) dX11_thrown_24 ⟨Nat.le_of_ble_eq_true rfl, Nat.le_of_ble_eq_true rfl⟩) hS hA hP (fun H locs hP hS => ?_)
      refine lv_if_ne (tgt := 32) hx hb dX11_thrown_27 (by decide) (fun c27 => ?_) (fun c27 => ?_)
      · refine lv_aload_n hx hb dX11_thrown_32 rfl (lv_at hl 1 rfl) ?_
        refine lv_iload hx hb dX11_thrown_33 (lv_at hl 0 rfl) ?_
        refine lv_iload_n hx hb dX11_thrown_35 rfl (lv_at hl 3 rfl) ?_
        refine lv_iload_n hx hb dX11_thrown_36 rfl (lv_at hl 4 rfl) ?_
        refine lv_iload hx hb dX11_thrown_37 (lv_at hl 5 rfl) ?_
        refine ro (va_runV (As := [.int (nI r9), .int (nI x9), .int (nI y9), .int (nI z9)]) (rest := []) ⟨hx, hb, hml, hown, hts⟩ (c_heightAt l D cI cR cM _ mm q v F (r := r9) (b := x9) (j := y9) (k := z9) (by omega)) (cwV 4 hts gX11_thrown_X11_heightAt rfl rfl rfl (by decide +kernel) ⟨Nat.le_of_ble_eq_true rfl, Nat.le_of_ble_eq_true rfl⟩) (pre_V hK hP hD 0 11 rfl rfl) rfl rfl hl.1 rfl (lv_room (Nat.le_of_ble_eq_true rfl)) dX11_thrown_39 ⟨Nat.le_of_ble_eq_true rfl, Nat.le_of_ble_eq_true rfl⟩) hS hA hP (fun H locs hP hS => ?_)
        refine lv_istore (lv' := [(7, .int (F 0 (r9 + 1 + 6 * x9 + 2 * y9 + z9) / 4)), (6, .int (nI r9)), (0, .ref mm), (1, .int i0), (2, .int (nI x9)), (3, .int (nI y9)), (4, .int (nI z9)), (5, .int i4)]) hx hb dX11_thrown_42 hl (by decide) rfl (fun ls hl => ?_)
        refine lv_iload hx hb dX11_thrown_44 (lv_at hl 7 rfl) ?_
        refine lv_if_ne (tgt := 54) hx hb dX11_thrown_46 (by decide) (fun c46 => ?_) (fun c46 => ?_)
        · refine lv_iload hx hb dX11_thrown_54 (lv_at hl 0 rfl) ?_
          refine lv_if_ne (tgt := 63) hx hb dX11_thrown_56 (by decide) (fun c56 => ?_) (fun c56 => ?_)
          · refine lv_aload_n hx hb dX11_thrown_63 rfl (lv_at hl 2 rfl) ?_
            refine lv_iload hx hb dX11_thrown_64 (lv_at hl 1 rfl) ?_
            refine lv_iload_n hx hb dX11_thrown_66 rfl (lv_at hl 4 rfl) ?_
            refine lv_iload_n hx hb dX11_thrown_67 rfl (lv_at hl 5 rfl) ?_
            refine lv_iload hx hb dX11_thrown_68 (lv_at hl 6 rfl) ?_
            refine ro (va_runV (As := [.int (nI r9), .int (nI x9), .int (nI y9), .int (nI z9)]) (rest := []) ⟨hx, hb, hml, hown, hts⟩ (c_toAt l D cI cR cM _ mm q v F (r := r9) (b := x9) (j := y9) (k := z9) (by omega)) (cwV 4 hts gX11_thrown_X11_toAt rfl rfl rfl (by decide +kernel) ⟨Nat.le_of_ble_eq_true rfl, Nat.le_of_ble_eq_true rfl⟩) (pre_V hK hP hD 0 11 rfl rfl) rfl rfl hl.1 rfl (lv_room (Nat.le_of_ble_eq_true rfl)) dX11_thrown_70 ⟨Nat.le_of_ble_eq_true rfl, Nat.le_of_ble_eq_true rfl⟩) hS hA hP (fun H locs hP hS => ?_)
            exact rn_iret hx hb hr hlocks hS hQ dX11_thrown_73
          · refine lv_iconst (v := (-1)) hx hb dX11_thrown_59 (by decide) ?_
            refine lv_goto (tgt := 73) hx hb dX11_thrown_60 (by decide) ?_
            exact rn_iret hx hb hr hlocks hS hQ dX11_thrown_73
        · refine lv_iload hx hb dX11_thrown_49 (lv_at hl 0 rfl) ?_
          refine lv_goto (tgt := 73) hx hb dX11_thrown_51 (by decide) ?_
          exact rn_iret hx hb hr hlocks hS hQ dX11_thrown_73
      · refine lv_iconst (v := (-1)) hx hb dX11_thrown_30 (by decide) ?_
        exact rn_iret hx hb hr hlocks hS hQ dX11_thrown_31
set_option maxRecDepth 100000 in
set_option maxHeartbeats 4000000 in
theorem c_faultG (l : Launch) (D : va_G) (cI cR cM : ClassId) (sz : Nat) {jn : Nat} (mm : Nat) (q : Nat → Nat) (v : Nat → Int32) (F : Nat → Nat → Int32) (i0 : Int32) : Met l yX11_fault wsX11_fault ({ frames := 0, cells := 0, slots := 0, locals := 0 }) (P0 D cI cR cM [.ref mm, .int i0] sz (mW mm q jn cI v F)) (QN sz) 0 0 (va_A [] sz) := by
  refine go (cc := cX11_fault) (maxL := 2) (ret := (some .int)) (by decide) rfl (Nat.le_of_ble_eq_true rfl) ?_
  intro p e s m below meth c ls args Q hQ hsz hx hb hr hml hts hown hlocks hnm hP hK hD hl
  subst hsz
  have hS : va_S (va_A [] s.heap.size) s.heap s.heap [] := va_S.rf
  have hA : ∀ q, s.heap.size ≤ q → va_A [] s.heap.size q := fun q h => Or.inr h
  have hl : lv_has ls 2 [(0, .ref mm), (1, .int i0)] := hl
  refine lv_iload_n hx hb dX11_fault_0 rfl (lv_at hl 1 rfl) ?_
  refine lv_if_ne (tgt := 11) hx hb dX11_fault_1 (by decide) (fun c1 => ?_) (fun c1 => ?_)
  · refine lv_iload_n hx hb dX11_fault_11 rfl (lv_at hl 1 rfl) ?_
    refine lv_iconst (v := 1) hx hb dX11_fault_12 (by decide) ?_
    refine lv_icmp_ne (tgt := 23) hx hb dX11_fault_13 (by decide) (fun c13 => ?_) (fun c13 => ?_)
    · refine lv_iconst (v := (-1)) hx hb dX11_fault_23 (by decide) ?_
      exact rn_iret hx hb hr hlocks hS hQ dX11_fault_24
    · refine lv_aload_n hx hb dX11_fault_16 rfl (lv_at hl 0 rfl) ?_
      refine va_get (D := D) (ci := 11) (v := .int (v 4)) (C := RX11) (T := TX11) (N := 47) hx hb hts (by decide +kernel) hown hK.1 hP 0 rfl rfl 8 (by decide) (hts (.fieldLink RX11 24 "JugglingHallModel" "faultPlace" "I") (by decide +kernel)) (fun _ h9 => h9) rfl dX11_fault_17 ?_
      refine lv_goto (tgt := 24) hx hb dX11_fault_20 (by decide) ?_
      exact rn_iret hx hb hr hlocks hS hQ dX11_fault_24
  · refine lv_aload_n hx hb dX11_fault_4 rfl (lv_at hl 0 rfl) ?_
    refine va_get (D := D) (ci := 11) (v := .int (v 3)) (C := RX11) (T := TX11) (N := 47) hx hb hts (by decide +kernel) hown hK.1 hP 0 rfl rfl 7 (by decide) (hts (.fieldLink RX11 20 "JugglingHallModel" "fault" "I") (by decide +kernel)) (fun _ h9 => h9) rfl dX11_fault_5 ?_
    refine lv_goto (tgt := 24) hx hb dX11_fault_8 (by decide) ?_
    exact rn_iret hx hb hr hlocks hS hQ dX11_fault_24
theorem inI_no {x : Int32} : inI x 0 (nI 0 - 1) = 0 := by
  unfold inI
  by_cases h : x < 0
  · rw [if_pos h]
  · rw [if_neg h, if_pos (Int32.lt_of_lt_of_le (show (nI 0 - 1 : Int32) < 0 by decide) (Int32.not_lt.mp h))]
set_option maxRecDepth 100000 in
set_option maxHeartbeats 4000000 in
theorem c_scoreG (l : Launch) (D : va_G) (cI cR cM : ClassId) (sz : Nat) {jn : Nat} (mm : Nat) (q : Nat → Nat) (v : Nat → Int32) (F : Nat → Nat → Int32) {sc : Nat} (hsc : sc ≤ 300) (esc : v 18 = nI sc) (i0 i1 : Int32) : Met l yX11_score wsX11_score ({ frames := 1, cells := 0, slots := 0, locals := 22 }) (P0 D cI cR cM [.ref mm, .int i0, .int i1] sz (mW mm q jn cI v F)) (QN sz) 0 0 (va_A [] sz) := by
  refine go (cc := cX11_score) (maxL := 3) (ret := (some .int)) (by decide) rfl (Nat.le_of_ble_eq_true rfl) ?_
  intro p e s m below meth c ls args Q hQ hsz hx hb hr hml hts hown hlocks hnm hP hK hD hl
  subst hsz
  have hS : va_S (va_A [] s.heap.size) s.heap s.heap [] := va_S.rf
  have hA : ∀ q, s.heap.size ≤ q → va_A [] s.heap.size q := fun q h => Or.inr h
  have hl : lv_has ls 3 [(0, .ref mm), (1, .int i0), (2, .int i1)] := hl
  refine lv_iload_n hx hb dX11_score_0 rfl (lv_at hl 1 rfl) ?_
  refine lv_iconst (v := 0) hx hb dX11_score_1 (by decide) ?_
  refine lv_aload_n hx hb dX11_score_2 rfl (lv_at hl 0 rfl) ?_
  refine va_get (D := D) (ci := 11) (v := .int (v 18)) (C := RX11) (T := TX11) (N := 47) hx hb hts (by decide +kernel) hown hK.1 hP 0 rfl rfl 42 (by decide) (hts (.fieldLink RX11 310 "JugglingHallModel" "scored" "I") (by decide +kernel)) (fun _ h9 => h9) rfl dX11_score_3 ?_
  refine lv_iconst (v := 1) hx hb dX11_score_6 (by decide) ?_
  refine lv_isub hx hb dX11_score_7 ?_
  refine ro (va_runS (As := [.int i0, .int 0, .int ((v 18) - 1)]) (rest := []) ⟨hx, hb, hml, hown, hts⟩ (c_isIn l D cI cR cM _ i0 0 (v 18 - 1)) (va_cwS 3 hts gX11_score_X11_isIn rfl rfl rfl (by decide +kernel) ⟨Nat.le_of_ble_eq_true rfl, Nat.le_of_ble_eq_true rfl⟩) (pre_S hK va_P_nil (va_D_nil (A := fun _ => True))) rfl rfl hl.1 rfl (lv_room (Nat.le_of_ble_eq_true rfl)) dX11_score_8 ⟨Nat.le_of_ble_eq_true rfl, Nat.le_of_ble_eq_true rfl⟩) hS hA hP (fun H locs hP hS => ?_)
  refine lv_if_ne (tgt := 16) hx hb dX11_score_11 (by decide) (fun c11 => ?_) (fun c11 => ?_)
  · have hk : ∃ k, k < sc ∧ i0 = nI k := by
      rw [esc] at c11
      rcases sc with _ | sc9
      · exact absurd inI_no c11
      · rw [nI_pred] at c11
        obtain ⟨k, -, k1, k2⟩ := in_of (lo := 0) (hi := sc9) (by omega) (by decide) c11
        exact ⟨k, by omega, k2⟩
    obtain ⟨k9, hk9, rfl⟩ := hk
    refine lv_iload_n hx hb dX11_score_16 rfl (lv_at hl 2 rfl) ?_
    refine lv_if_ne (tgt := 29) hx hb dX11_score_17 (by decide) (fun c17 => ?_) (fun c17 => ?_)
    · refine lv_iload_n hx hb dX11_score_29 rfl (lv_at hl 2 rfl) ?_
      refine lv_iconst (v := 1) hx hb dX11_score_30 (by decide) ?_
      refine lv_icmp_ne (tgt := 43) hx hb dX11_score_31 (by decide) (fun c31 => ?_) (fun c31 => ?_)
      · refine lv_iconst (v := (-1)) hx hb dX11_score_43 (by decide) ?_
        exact rn_iret hx hb hr hlocks hS hQ dX11_score_44
      · refine lv_aload_n hx hb dX11_score_34 rfl (lv_at hl 0 rfl) ?_
        refine va_get (D := D) (ci := 11) (v := .ref (q 22)) (C := RX11) (T := TX11) (N := 47) hx hb hts (by decide +kernel) hown hK.1 hP 0 rfl rfl 41 (by decide) (hts (.fieldLink RX11 84 "JugglingHallModel" "scoreLetter" "[I") (by decide +kernel)) (fun _ h9 => h9) rfl dX11_score_35 ?_
        refine lv_iload_n hx hb dX11_score_38 rfl (lv_at hl 1 rfl) ?_
        refine ald_n (k := k9) hx hb hK.1 hP 23 0 rfl rfl (by omega) (by decide) dX11_score_39 ?_
        refine lv_goto (tgt := 44) hx hb dX11_score_40 (by decide) ?_
        exact rn_iret hx hb hr hlocks hS hQ dX11_score_44
    · refine lv_aload_n hx hb dX11_score_20 rfl (lv_at hl 0 rfl) ?_
      refine va_get (D := D) (ci := 11) (v := .ref (q 21)) (C := RX11) (T := TX11) (N := 47) hx hb hts (by decide +kernel) hown hK.1 hP 0 rfl rfl 40 (by decide) (hts (.fieldLink RX11 81 "JugglingHallModel" "scoreHeight" "[I") (by decide +kernel)) (fun _ h9 => h9) rfl dX11_score_21 ?_
      refine lv_iload_n hx hb dX11_score_24 rfl (lv_at hl 1 rfl) ?_
      refine ald_n (k := k9) hx hb hK.1 hP 22 0 rfl rfl (by omega) (by decide) dX11_score_25 ?_
      refine lv_goto (tgt := 44) hx hb dX11_score_26 (by decide) ?_
      exact rn_iret hx hb hr hlocks hS hQ dX11_score_44
  · refine lv_iconst (v := (-1)) hx hb dX11_score_14 (by decide) ?_
    exact rn_iret hx hb hr hlocks hS hQ dX11_score_15
set_option maxRecDepth 100000 in
set_option maxHeartbeats 4000000 in
theorem c_seeG (l : Launch) (D : va_G) (cI cR cM : ClassId) (sz : Nat) {jn : Nat} (mm : Nat) (q : Nat → Nat) (v : Nat → Int32) (F : Nat → Nat → Int32) {tn k : Nat} (htn : tn ≤ 300) (etn : v 2 = nI tn) (hk : k < 2 ^ 30) : Met l yX11_see wsX11_see ({ frames := 0, cells := 0, slots := 0, locals := 0 }) (P0 D cI cR cM [.ref mm, .int (nI k)] sz (mW mm q jn cI v F)) (QE (some (.int (if k < tn then F 2 k else -1))) sz) 0 0 (va_A [] sz) := by
  refine go (cc := cX11_see) (maxL := 2) (ret := (some .int)) (by decide) rfl (Nat.le_of_ble_eq_true rfl) ?_
  intro p e s m below meth c ls args Q hQ hsz hx hb hr hml hts hown hlocks hnm hP hK hD hl
  subst hsz
  have hS : va_S (va_A [] s.heap.size) s.heap s.heap [] := va_S.rf
  have hA : ∀ q, s.heap.size ≤ q → va_A [] s.heap.size q := fun q h => Or.inr h
  have hl : lv_has ls 2 [(0, .ref mm), (1, .int (nI k))] := hl
  refine lv_iload_n hx hb dX11_see_0 rfl (lv_at hl 1 rfl) ?_
  refine lv_aload_n hx hb dX11_see_1 rfl (lv_at hl 0 rfl) ?_
  refine va_get (D := D) (ci := 11) (v := .int (v 2)) (C := RX11) (T := TX11) (N := 47) hx hb hts (by decide +kernel) hown hK.1 hP 0 rfl rfl 6 (by decide) (hts (.fieldLink RX11 110 "JugglingHallModel" "taped" "I") (by decide +kernel)) (fun _ h9 => h9) rfl dX11_see_2 ?_
  refine lv_eqi (y := nI tn) (etn) ?_
  refine lv_icmp_ge (tgt := 17) hx hb dX11_see_5 (by decide) (fun c5 => ?_) (fun c5 => ?_)
  · have hlt : ¬ k < tn := fun q => absurd c5 (nI_ge q (by omega))
    refine lv_iconst (v := (-1)) hx hb dX11_see_17 (by decide) ?_
    exact ro_iret hx hb hr hlocks hS ((if_neg hlt).symm) hQ dX11_see_18
  · have hlt : k < tn := Nat.lt_of_not_le fun q => c5 (nI_le q (by omega))
    refine lv_aload_n hx hb dX11_see_8 rfl (lv_at hl 0 rfl) ?_
    refine va_get (D := D) (ci := 11) (v := .ref (q 2)) (C := RX11) (T := TX11) (N := 47) hx hb hts (by decide +kernel) hown hK.1 hP 0 rfl rfl 5 (by decide) (hts (.fieldLink RX11 17 "JugglingHallModel" "tape" "[I") (by decide +kernel)) (fun _ h9 => h9) rfl dX11_see_9 ?_
    refine lv_iload_n hx hb dX11_see_12 rfl (lv_at hl 1 rfl) ?_
    refine ald_n (k := k) hx hb hK.1 hP 3 0 rfl rfl (by omega) (by decide) dX11_see_13 ?_
    refine lv_goto (tgt := 18) hx hb dX11_see_14 (by decide) ?_
    exact ro_iret hx hb hr hlocks hS ((if_pos hlt).symm) hQ dX11_see_18
set_option maxRecDepth 100000 in
set_option maxHeartbeats 4000000 in
theorem c_heightOf (l : Launch) (D : va_G) (cI cR cM : ClassId) (sz : Nat) {jn : Nat} (mm : Nat) (q : Nat → Nat) (v : Nat → Int32) (F : Nat → Nat → Int32) {r t : Nat} (hix : r + 1 + t < 73200) : Met l yX11_heightOf wsX11_heightOf ({ frames := 0, cells := 0, slots := 0, locals := 0 }) (P0 D cI cR cM [.ref mm, .int (nI r), .int (nI t)] sz (mW mm q jn cI v F)) (QE (some (.int (F 0 (r + 1 + t) / 4))) sz) 0 0 (va_A [] sz) := by
  refine go (cc := cX11_heightOf) (maxL := 3) (ret := (some .int)) (by decide) rfl (Nat.le_of_ble_eq_true rfl) ?_
  intro p e s m below meth c ls args Q hQ hsz hx hb hr hml hts hown hlocks hnm hP hK hD hl
  subst hsz
  have hS : va_S (va_A [] s.heap.size) s.heap s.heap [] := va_S.rf
  have hA : ∀ q, s.heap.size ≤ q → va_A [] s.heap.size q := fun q h => Or.inr h
  have hl : lv_has ls 3 [(0, .ref mm), (1, .int (nI r)), (2, .int (nI t))] := hl
  refine lv_aload_n hx hb dX11_heightOf_0 rfl (lv_at hl 0 rfl) ?_
  refine va_get (D := D) (ci := 11) (v := .ref (q 0)) (C := RX11) (T := TX11) (N := 47) hx hb hts (by decide +kernel) hown hK.1 hP 0 rfl rfl 1 (by decide) (hts (.fieldLink RX11 8 "JugglingHallModel" "rows" "[I") (by decide +kernel)) (fun _ h9 => h9) rfl dX11_heightOf_1 ?_
  refine lv_iload_n hx hb dX11_heightOf_4 rfl (lv_at hl 1 rfl) ?_
  refine lv_iconst (v := 1) hx hb dX11_heightOf_5 (by decide) ?_
  refine lv_iadd hx hb dX11_heightOf_6 ?_
  refine lv_eqi (y := nI (r + 1)) (nI_1 r) ?_
  refine lv_iload_n hx hb dX11_heightOf_7 rfl (lv_at hl 2 rfl) ?_
  refine lv_iadd hx hb dX11_heightOf_8 ?_
  refine lv_eqi (y := nI (r + 1 + t)) (nI_add _ _) ?_
  refine ald_n (k := r + 1 + t) hx hb hK.1 hP 1 0 rfl rfl (hix) (by decide) dX11_heightOf_9 ?_
  refine lv_iconst (v := 4) hx hb dX11_heightOf_10 (by decide) ?_
  refine lv_idiv hx hb dX11_heightOf_11 (by decide) ?_
  exact ro_iret hx hb hr hlocks hS (rfl) hQ dX11_heightOf_12
