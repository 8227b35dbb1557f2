theorem p_list {D : va_G} {cl : List vw_C} {L : List Nat} {f : Nat → va_E} {H : Heap} {ws : va_W} (hP : va_P D cl (va_pl L f) H) (h : ∀ q ∈ ws, q.1 ∈ L ∧ f q.1 = q.2) : va_P D cl ws H := fun k q hq => by
  obtain ⟨h1, h2⟩ := h q (List.mem_of_getElem? hq)
  obtain ⟨q0, e0⟩ := pl_at (f := f) h1
  have h3 := hP q0 _ e0
  rw [h2] at h3
  exact h3
theorem d_list {ws : va_W} (h : (ws.map Prod.fst).Nodup) : va_D (fun _ => True) ws := by
  refine ⟨fun i j p q hi hj e => ?_, fun _ _ _ => trivial⟩
  have h1 : (ws.map Prod.fst)[i]? = some p.1 := by rw [List.getElem?_map, hi]; rfl
  have h2 : (ws.map Prod.fst)[j]? = some p.1 := by rw [List.getElem?_map, hj, e]; rfl
  have l1 : i < (ws.map Prod.fst).length := (List.getElem?_eq_some_iff.mp h1).1
  exact (List.getElem?_inj l1 h).mp (h1.trans h2.symm)
theorem sg_inj {g : Nat → Nat} {L : List Nat} {S : Sg} (hG : SG g L S) {a b : Nat} (ha : a ∈ ([10, 11, 12, 13, 14, 15, 16, 17, 18, 20, 21, 22, 23, 27, 30, 31, 32, 33, 34, 35, 36, 37, 38, 39, 40, 41, 42, 43, 44, 45, 46, 47] : List Nat)) (hb : b ∈ ([10, 11, 12, 13, 14, 15, 16, 17, 18, 20, 21, 22, 23, 27, 30, 31, 32, 33, 34, 35, 36, 37, 38, 39, 40, 41, 42, 43, 44, 45, 46, 47] : List Nat)) (h : g a = g b) : a = b := by
  have h1 := (hG.1 a ha).2
  rw [h, (hG.1 b hb).2] at h1
  exact (congrArg Prod.fst h1).symm
theorem sg_nd {g : Nat → Nat} {L : List Nat} {S : Sg} (hG : SG g L S) (ks : List Nat) (hk : ∀ k ∈ ks, k ∈ ([10, 11, 12, 13, 14, 15, 16, 17, 18, 20, 21, 22, 23, 27, 30, 31, 32, 33, 34, 35, 36, 37, 38, 39, 40, 41, 42, 43, 44, 45, 46, 47] : List Nat)) (hn : ks.Nodup) : (ks.map g).Nodup := by
  induction ks with
  | nil => exact List.nodup_nil
  | cons k ks ih =>
    rw [List.map_cons, List.nodup_cons]
    rw [List.nodup_cons] at hn
    refine ⟨fun h => ?_, ih (fun q hq => hk q (List.mem_cons_of_mem _ hq)) hn.2⟩
    obtain ⟨j, hj, e⟩ := List.mem_map.mp h
    have := sg_inj hG (hk j (List.mem_cons_of_mem _ hj)) (hk k (List.mem_cons_self ..)) e
    exact hn.1 (by rw [← this]; exact hj)
theorem sg_in {g : Nat → Nat} {L : List Nat} {S : Sg} {T ks : List Nat} {b : Nat} (hG : SG g L S) (hb : b ∈ ks.map g) (hk : ∀ k ∈ ks, k ∈ ([10, 11, 12, 13, 14, 15, 16, 17, 18, 20, 21, 22, 23, 27, 30, 31, 32, 33, 34, 35, 36, 37, 38, 39, 40, 41, 42, 43, 44, 45, 46, 47] : List Nat)) (ht : ∀ k ∈ ks, k ∈ T) : (S b).1 ∈ T := by
  obtain ⟨k, h1, h2⟩ := List.mem_map.mp hb
  rw [← h2, (hG.1 k (hk k h1)).2]
  exact ht k h1
theorem IN_fr {jn : Nat} {cI cR cM : ClassId} {g : Nat → Nat} {L : List Nat} {S : Sg} {f f1 : Nat → va_E} {T : List Nat} (hI : IN jn cI cR cM g L S f) (hF : FR S T f f1) (h : ∀ a, a ∈ L → (S a).1 ∈ T → okE jn cI cR cM g L S a (S a) (f1 a)) : IN jn cI cR cM g L S f1 := fun a ha => by
  by_cases q : (S a).1 ∈ T
  · exact h a ha q
  · rw [hF a q]; exact hI a ha
theorem mul50 {a b : Int} (ha : 1 ≤ a ∧ a ≤ 50) (hb : 0 ≤ b ∧ b ≤ 72) : 0 ≤ a * b ∧ a * b ≤ 3600 := by
  have h1 : a * b ≤ 50 * b := Int.mul_le_mul_of_nonneg_right ha.2 hb.1
  have h2 : 0 ≤ a * b := Int.mul_nonneg (by omega) hb.1
  omega
theorem IN_at {jn : Nat} {cI cR cM : ClassId} {g : Nat → Nat} {L : List Nat} {S : Sg} {f f1 : Nat → va_E} {ks : List Nat} (hI : IN jn cI cR cM g L S f) (ho : ∀ b, b ∉ ks.map g → f1 b = f b) (hk : ∀ k ∈ ks, okE jn cI cR cM g L S (g k) (S (g k)) (f1 (g k))) : IN jn cI cR cM g L S f1 := fun a ha => by
  by_cases q : a ∈ ks.map g
  · obtain ⟨k, h1, h2⟩ := List.mem_map.mp q
    rw [← h2]; exact hk k h1
  · rw [ho a q]; exact hI a ha
theorem ok_at {jn : Nat} {cI cR cM : ClassId} {g : Nat → Nat} {L : List Nat} {S : Sg} {f1 : Nat → va_E} {k : Nat} {e : va_E} (hs : S (g k) = (k, 0, 0)) (hf : f1 (g k) = e) (h : okE jn cI cR cM g L S (g k) (k, 0, 0) e) : okE jn cI cR cM g L S (g k) (S (g k)) (f1 (g k)) := by
  rw [hs, hf]; exact h
section HLPX
variable {p : Program} {l : Launch} {e : Env} {R : Room} {s : State} {m : MethodId} {args : Array Value} {below : List Frame} {meth : Method} {c : Code} {H : Heap} {locs : List Loc} {cells slots : Nat} {Q : State → Prop}
variable {cc : ByteArray} {pc : Nat} {ls : Array Slot} {rest st0 : List Value} {D : va_G} {cl : List vw_C} {A : Nat → Prop} {a : Nat} {tys : List (ClassId × FieldType)} {ws wc wr : va_W} {H0 : Heap} {av : Array Value} {mc ms : Nat}
variable {L : List Nat} {f : Nat → va_E}
/-- a call of a method whose world is some of the class's cells -/
theorem call_sub {S : Type} {ans : S → Option Value} {w1 : S → va_W} {post : S → Prop} (hr : va_Run p l e R s m args below meth c H locs cells slots mc ms (F0 m pc ls st0) rest (QG ans w1 post D (va_A wc H.size) av) (va_A wc H.size)) (hP : va_P D vwCl (va_pl L f) H) (hD : va_D A (va_pl L f)) (hS : va_S A H0 H locs) (hA : ∀ q, H0.size ≤ q → A q) (hm : ∀ q ∈ wc, q.1 ∈ L) (hw : ∀ u, (w1 u).map Prod.fst = wc.map Prod.fst)
    (kk : ∀ (u : S) (f1 : Nat → va_E) (H1 : Heap) (locs1 : List Loc), post u → (∀ q ∈ w1 u, f1 q.1 = q.2) → (∀ b, b ∉ wc.map Prod.fst → f1 b = f b) → va_P D vwCl (va_pl L f1) H1 → va_D A (va_pl L f1) → va_S A H0 H1 locs1 → W p l e R s m args below meth c H1 locs1 (cells + mc) (slots + ms) Q (F0 m (pc + 3) ls ((ans u).toList ++ rest))) : W p l e R s m args below meth c H locs cells slots Q (F0 m pc ls st0) := by
  have hAL : ∀ b, b ∈ L → A b := fun b hb => by
    obtain ⟨q0, e0⟩ := pl_at (f := f) hb
    exact hD.2 q0 _ e0
  have hF : ∀ q, va_A wc H.size q → A q := fun q h => by
    rcases h with ⟨k, e, h⟩ | h
    · exact hAL q (hm (q, e) (List.mem_of_getElem? h))
    · exact hA q (Nat.le_trans hS.1 h)
  intro T hT X
  obtain ⟨v', st₀, t, T', L9, h0, X', hL, e1, e2, ⟨⟨u, hv, hp, hP1, hD1⟩, hz, hk⟩, st⟩ := hr T hT X
  cases hv
  rw [h0] at hz hk
  rw [← e1] at hP1
  have hk2 : ∀ q : Nat, q < H.size → ¬ va_A wc H.size q → T'.heap[q]? = H[q]? := fun q h h2 => by rw [e1]; exact hk q h h2
  have hz2 : H.size ≤ T'.heap.size := by rw [e1]; exact hz
  have hfx : ∃ f1 : Nat → va_E, (∀ q ∈ w1 u, f1 q.1 = q.2) ∧ ∀ b, b ∉ wc.map Prod.fst → f1 b = f b := by
    refine ⟨fun b => match (w1 u).find? (fun q => decide (q.1 = b)) with | some q => q.2 | none => f b, fun q hq => ?_, fun b hb => ?_⟩
    · cases hx : (w1 u).find? (fun q9 => decide (q9.1 = q.1)) with
      | none =>
        have := List.find?_eq_none.mp hx q hq
        simp at this
      | some r =>
        have h1 := List.mem_of_find?_eq_some hx
        have h2 : r.1 = q.1 := by simpa using List.find?_some hx
        obtain ⟨i, hi⟩ := List.getElem?_of_mem h1
        obtain ⟨j, hj⟩ := List.getElem?_of_mem hq
        have h3 := hD1.1 i j r q hi hj h2
        rw [h3, hj] at hi
        show (match (w1 u).find? (fun q9 => decide (q9.1 = q.1)) with | some q => q.2 | none => f q.1) = q.2
        rw [hx]
        cases hi; rfl
    · have hx : (w1 u).find? (fun q9 => decide (q9.1 = b)) = none := List.find?_eq_none.mpr (fun q hq h9 => hb (by
        rw [← hw u]
        have h9 : q.1 = b := by simpa using h9
        rw [← h9]; exact List.mem_map.mpr ⟨q, hq, rfl⟩))
      show (match (w1 u).find? (fun q9 => decide (q9.1 = b)) with | some q => q.2 | none => f b) = f b
      rw [hx]
  obtain ⟨f1, hf1, hf2⟩ := hfx
  have hPn : va_P D vwCl (va_pl L f1) T'.heap := by
    intro k q hq
    simp only [va_pl, List.getElem?_map] at hq
    cases hb : L[k]? with
    | none => rw [hb] at hq; cases hq
    | some b =>
      rw [hb] at hq
      cases hq
      by_cases hw9 : b ∈ wc.map Prod.fst
      · have hw8 := hw9
        rw [← hw u] at hw8
        obtain ⟨r, hr1, hr2⟩ := List.mem_map.mp hw8
        obtain ⟨i, hi⟩ := List.getElem?_of_mem hr1
        have h3 := hP1 i r hi
        show va_at D vwCl (b, f1 b) _
        rw [← hr2, hf1 r hr1]; exact h3
      · show va_at D vwCl (b, f1 b) _
        rw [hf2 b hw9]
        have h3 : va_at D vwCl (b, f b) H := hP k (b, f b) (by simp only [va_pl, List.getElem?_map, hb]; rfl)
        refine h3.kept (hk2 b h3.lt (fun z => ?_))
        rcases z with ⟨k9, e9, z⟩ | z
        · exact hw9 (List.mem_map.mpr ⟨(b, e9), List.mem_of_getElem? z, rfl⟩)
        · exact absurd h3.lt (by show ¬ b < H.size; omega)
  have hDn : va_D A (va_pl L f1) := by
    have key : ∀ (k : Nat) (q : Nat × va_E), (va_pl L f1)[k]? = some q → (va_pl L f)[k]? = some (q.1, f q.1) := fun k q hq => by
      simp only [va_pl, List.getElem?_map] at hq ⊢
      cases hb : L[k]? with
      | none => rw [hb] at hq; cases hq
      | some b => rw [hb] at hq; cases hq; rfl
    exact ⟨fun i j p q hi hj e => hD.1 i j _ _ (key i p hi) (key j q hj) e, fun k q hq => hD.2 k (q.1, f q.1) (key k q hq)⟩
  obtain ⟨t2, a1, b1⟩ := kk u f1 T'.heap (locs ++ L9) hp hf1 hf2 hPn hDn
    ⟨Nat.le_trans hS.1 hz2, fun q h1 h2 => by rw [hk2 q (Nat.lt_of_lt_of_le h1 hS.1) (fun z => h2 (hF q z))]; exact hS.2.1 q h1 h2, fun q hq => by
      rcases List.mem_append.mp hq with h | h
      · exact hS.2.2 q h
      · exact hF _ (hL q h)⟩ T' rfl X'
  exact ⟨t2, st t2 a1, b1⟩
end HLPX
theorem dX10_feed_0 : decode cX10_feed 0 = .ok (.aload_n 0, 1) := by decide +kernel
theorem dX10_feed_1 : decode cX10_feed 1 = .ok (.getfield 25, 3) := by decide +kernel
theorem dX10_feed_4 : decode cX10_feed 4 = .ok (.bipush 20, 2) := by decide +kernel
theorem dX10_feed_6 : decode cX10_feed 6 = .ok (.invokevirtual 78, 3) := by decide +kernel
theorem dX10_feed_9 : decode cX10_feed 9 = .ok (.ifCond .ne 5, 3) := by decide +kernel
theorem dX10_feed_12 : decode cX10_feed 12 = .ok (.iconst (-1), 1) := by decide +kernel
theorem dX10_feed_13 : decode cX10_feed 13 = .ok (.ireturn, 1) := by decide +kernel
theorem dX10_feed_14 : decode cX10_feed 14 = .ok (.aload_n 0, 1) := by decide +kernel
theorem dX10_feed_15 : decode cX10_feed 15 = .ok (.getfield 25, 3) := by decide +kernel
theorem dX10_feed_18 : decode cX10_feed 18 = .ok (.iload_n 1, 1) := by decide +kernel
theorem dX10_feed_19 : decode cX10_feed 19 = .ok (.invokevirtual 82, 3) := by decide +kernel
theorem dX10_feed_22 : decode cX10_feed 22 = .ok (.aload_n 0, 1) := by decide +kernel
theorem dX10_feed_23 : decode cX10_feed 23 = .ok (.getfield 25, 3) := by decide +kernel
theorem dX10_feed_26 : decode cX10_feed 26 = .ok (.iload_n 2, 1) := by decide +kernel
theorem dX10_feed_27 : decode cX10_feed 27 = .ok (.invokevirtual 82, 3) := by decide +kernel
theorem dX10_feed_30 : decode cX10_feed 30 = .ok (.aload_n 0, 1) := by decide +kernel
theorem dX10_feed_31 : decode cX10_feed 31 = .ok (.getfield 25, 3) := by decide +kernel
theorem dX10_feed_34 : decode cX10_feed 34 = .ok (.iload_n 3, 1) := by decide +kernel
theorem dX10_feed_35 : decode cX10_feed 35 = .ok (.invokevirtual 82, 3) := by decide +kernel
theorem dX10_feed_38 : decode cX10_feed 38 = .ok (.aload_n 0, 1) := by decide +kernel
theorem dX10_feed_39 : decode cX10_feed 39 = .ok (.getfield 25, 3) := by decide +kernel
theorem dX10_feed_42 : decode cX10_feed 42 = .ok (.iload 4, 2) := by decide +kernel
theorem dX10_feed_44 : decode cX10_feed 44 = .ok (.invokevirtual 82, 3) := by decide +kernel
theorem dX10_feed_47 : decode cX10_feed 47 = .ok (.aload_n 0, 1) := by decide +kernel
theorem dX10_feed_48 : decode cX10_feed 48 = .ok (.getfield 25, 3) := by decide +kernel
theorem dX10_feed_51 : decode cX10_feed 51 = .ok (.iload 5, 2) := by decide +kernel
theorem dX10_feed_53 : decode cX10_feed 53 = .ok (.invokevirtual 82, 3) := by decide +kernel
theorem dX10_feed_56 : decode cX10_feed 56 = .ok (.aload_n 0, 1) := by decide +kernel
theorem dX10_feed_57 : decode cX10_feed 57 = .ok (.getfield 25, 3) := by decide +kernel
theorem dX10_feed_60 : decode cX10_feed 60 = .ok (.getfield 86, 3) := by decide +kernel
theorem dX10_feed_63 : decode cX10_feed 63 = .ok (.ireturn, 1) := by decide +kernel
theorem dX10_end_0 : decode cX10_end 0 = .ok (.iload_n 1, 1) := by decide +kernel
theorem dX10_end_1 : decode cX10_end 1 = .ok (.ifCond .lt 14, 3) := by decide +kernel
theorem dX10_end_4 : decode cX10_end 4 = .ok (.iload_n 1, 1) := by decide +kernel
theorem dX10_end_5 : decode cX10_end 5 = .ok (.aload_n 0, 1) := by decide +kernel
theorem dX10_end_6 : decode cX10_end 6 = .ok (.getfield 25, 3) := by decide +kernel
theorem dX10_end_9 : decode cX10_end 9 = .ok (.getfield 86, 3) := by decide +kernel
theorem dX10_end_12 : decode cX10_end 12 = .ok (.if_icmp .le 5, 3) := by decide +kernel
theorem dX10_end_15 : decode cX10_end 15 = .ok (.iconst (-1), 1) := by decide +kernel
theorem dX10_end_16 : decode cX10_end 16 = .ok (.ireturn, 1) := by decide +kernel
theorem dX10_end_17 : decode cX10_end 17 = .ok (.aload_n 0, 1) := by decide +kernel
theorem dX10_end_18 : decode cX10_end 18 = .ok (.getfield 25, 3) := by decide +kernel
theorem dX10_end_21 : decode cX10_end 21 = .ok (.iload_n 1, 1) := by decide +kernel
theorem dX10_end_22 : decode cX10_end 22 = .ok (.putfield 86, 3) := by decide +kernel
theorem dX10_end_25 : decode cX10_end 25 = .ok (.iload_n 1, 1) := by decide +kernel
theorem dX10_end_26 : decode cX10_end 26 = .ok (.ireturn, 1) := by decide +kernel
theorem dX10_fault_0 : decode cX10_fault 0 = .ok (.iload_n 1, 1) := by decide +kernel
theorem dX10_fault_1 : decode cX10_fault 1 = .ok (.ifCond .ne 11, 3) := by decide +kernel
theorem dX10_fault_4 : decode cX10_fault 4 = .ok (.aload_n 0, 1) := by decide +kernel
theorem dX10_fault_5 : decode cX10_fault 5 = .ok (.getfield 46, 3) := by decide +kernel
theorem dX10_fault_8 : decode cX10_fault 8 = .ok (.getfield 102, 3) := by decide +kernel
theorem dX10_fault_11 : decode cX10_fault 11 = .ok (.ireturn, 1) := by decide +kernel
theorem dX10_fault_12 : decode cX10_fault 12 = .ok (.iload_n 1, 1) := by decide +kernel
theorem dX10_fault_13 : decode cX10_fault 13 = .ok (.iconst 1, 1) := by decide +kernel
theorem dX10_fault_14 : decode cX10_fault 14 = .ok (.if_icmp .ne 13, 3) := by decide +kernel
theorem dX10_fault_17 : decode cX10_fault 17 = .ok (.aload_n 0, 1) := by decide +kernel
theorem dX10_fault_18 : decode cX10_fault 18 = .ok (.getfield 46, 3) := by decide +kernel
theorem dX10_fault_21 : decode cX10_fault 21 = .ok (.getfield 105, 3) := by decide +kernel
theorem dX10_fault_24 : decode cX10_fault 24 = .ok (.goto 4, 3) := by decide +kernel
theorem dX10_fault_27 : decode cX10_fault 27 = .ok (.iconst (-1), 1) := by decide +kernel
theorem dX10_fault_28 : decode cX10_fault 28 = .ok (.ireturn, 1) := by decide +kernel
theorem dX10_look_0 : decode cX10_look 0 = .ok (.iload_n 1, 1) := by decide +kernel
theorem dX10_look_1 : decode cX10_look 1 = .ok (.ifCond .lt 14, 3) := by decide +kernel
theorem dX10_look_4 : decode cX10_look 4 = .ok (.iload_n 1, 1) := by decide +kernel
theorem dX10_look_5 : decode cX10_look 5 = .ok (.aload_n 0, 1) := by decide +kernel
theorem dX10_look_6 : decode cX10_look 6 = .ok (.getfield 32, 3) := by decide +kernel
theorem dX10_look_9 : decode cX10_look 9 = .ok (.getfield 99, 3) := by decide +kernel
theorem dX10_look_12 : decode cX10_look 12 = .ok (.if_icmp .le 5, 3) := by decide +kernel
theorem dX10_look_15 : decode cX10_look 15 = .ok (.iconst 0, 1) := by decide +kernel
theorem dX10_look_16 : decode cX10_look 16 = .ok (.ireturn, 1) := by decide +kernel
theorem dX10_look_17 : decode cX10_look 17 = .ok (.aload_n 0, 1) := by decide +kernel
theorem dX10_look_18 : decode cX10_look 18 = .ok (.getfield 32, 3) := by decide +kernel
theorem dX10_look_21 : decode cX10_look 21 = .ok (.iload_n 1, 1) := by decide +kernel
theorem dX10_look_22 : decode cX10_look 22 = .ok (.putfield 108, 3) := by decide +kernel
theorem dX10_look_25 : decode cX10_look 25 = .ok (.iconst 1, 1) := by decide +kernel
theorem dX10_look_26 : decode cX10_look 26 = .ok (.ireturn, 1) := by decide +kernel
theorem dX10_beats_0 : decode cX10_beats 0 = .ok (.aload_n 0, 1) := by decide +kernel
theorem dX10_beats_1 : decode cX10_beats 1 = .ok (.getfield 32, 3) := by decide +kernel
theorem dX10_beats_4 : decode cX10_beats 4 = .ok (.iload_n 1, 1) := by decide +kernel
theorem dX10_beats_5 : decode cX10_beats 5 = .ok (.invokevirtual 111, 3) := by decide +kernel
theorem dX10_beats_8 : decode cX10_beats 8 = .ok (.astore_n 2, 1) := by decide +kernel
theorem dX10_beats_9 : decode cX10_beats 9 = .ok (.aload_n 2, 1) := by decide +kernel
theorem dX10_beats_10 : decode cX10_beats 10 = .ok (.ifnonnull 7, 3) := by decide +kernel
theorem dX10_beats_13 : decode cX10_beats 13 = .ok (.iconst (-1), 1) := by decide +kernel
theorem dX10_beats_14 : decode cX10_beats 14 = .ok (.goto 7, 3) := by decide +kernel
theorem dX10_beats_17 : decode cX10_beats 17 = .ok (.aload_n 2, 1) := by decide +kernel
theorem dX10_beats_18 : decode cX10_beats 18 = .ok (.getfield 115, 3) := by decide +kernel
theorem dX10_beats_21 : decode cX10_beats 21 = .ok (.ireturn, 1) := by decide +kernel
theorem dX10_thrown_0 : decode cX10_thrown 0 = .ok (.aload_n 0, 1) := by decide +kernel
theorem dX10_thrown_1 : decode cX10_thrown 1 = .ok (.getfield 32, 3) := by decide +kernel
theorem dX10_thrown_4 : decode cX10_thrown 4 = .ok (.iload_n 1, 1) := by decide +kernel
theorem dX10_thrown_5 : decode cX10_thrown 5 = .ok (.invokevirtual 111, 3) := by decide +kernel
theorem dX10_thrown_8 : decode cX10_thrown 8 = .ok (.astore 6, 2) := by decide +kernel
theorem dX10_thrown_10 : decode cX10_thrown 10 = .ok (.aload 6, 2) := by decide +kernel
theorem dX10_thrown_12 : decode cX10_thrown 12 = .ok (.ifnonnull 7, 3) := by decide +kernel
theorem dX10_thrown_15 : decode cX10_thrown 15 = .ok (.iconst (-1), 1) := by decide +kernel
theorem dX10_thrown_16 : decode cX10_thrown 16 = .ok (.goto 12, 3) := by decide +kernel
theorem dX10_thrown_19 : decode cX10_thrown 19 = .ok (.aload 6, 2) := by decide +kernel
theorem dX10_thrown_21 : decode cX10_thrown 21 = .ok (.iload_n 2, 1) := by decide +kernel
theorem dX10_thrown_22 : decode cX10_thrown 22 = .ok (.iload_n 3, 1) := by decide +kernel
theorem dX10_thrown_23 : decode cX10_thrown 23 = .ok (.iload 4, 2) := by decide +kernel
theorem dX10_thrown_25 : decode cX10_thrown 25 = .ok (.invokevirtual 118, 3) := by decide +kernel
theorem dX10_thrown_28 : decode cX10_thrown 28 = .ok (.istore 7, 2) := by decide +kernel
theorem dX10_thrown_30 : decode cX10_thrown 30 = .ok (.iload 7, 2) := by decide +kernel
theorem dX10_thrown_32 : decode cX10_thrown 32 = .ok (.iconst (-1), 1) := by decide +kernel
theorem dX10_thrown_33 : decode cX10_thrown 33 = .ok (.if_icmp .ne 5, 3) := by decide +kernel
theorem dX10_thrown_36 : decode cX10_thrown 36 = .ok (.iconst (-1), 1) := by decide +kernel
theorem dX10_thrown_37 : decode cX10_thrown 37 = .ok (.ireturn, 1) := by decide +kernel
theorem dX10_thrown_38 : decode cX10_thrown 38 = .ok (.iload 5, 2) := by decide +kernel
theorem dX10_thrown_40 : decode cX10_thrown 40 = .ok (.ifCond .ne 11, 3) := by decide +kernel
theorem dX10_thrown_43 : decode cX10_thrown 43 = .ok (.aload 6, 2) := by decide +kernel
theorem dX10_thrown_45 : decode cX10_thrown 45 = .ok (.iload 7, 2) := by decide +kernel
theorem dX10_thrown_47 : decode cX10_thrown 47 = .ok (.invokevirtual 122, 3) := by decide +kernel
theorem dX10_thrown_50 : decode cX10_thrown 50 = .ok (.ireturn, 1) := by decide +kernel
theorem dX10_thrown_51 : decode cX10_thrown 51 = .ok (.iload 5, 2) := by decide +kernel
theorem dX10_thrown_53 : decode cX10_thrown 53 = .ok (.iconst 1, 1) := by decide +kernel
theorem dX10_thrown_54 : decode cX10_thrown 54 = .ok (.if_icmp .ne 23, 3) := by decide +kernel
theorem dX10_thrown_57 : decode cX10_thrown 57 = .ok (.aload 6, 2) := by decide +kernel
theorem dX10_thrown_59 : decode cX10_thrown 59 = .ok (.iload 7, 2) := by decide +kernel
theorem dX10_thrown_61 : decode cX10_thrown 61 = .ok (.invokevirtual 126, 3) := by decide +kernel
theorem dX10_thrown_64 : decode cX10_thrown 64 = .ok (.ifCond .eq 13, 3) := by decide +kernel
theorem dX10_thrown_67 : decode cX10_thrown 67 = .ok (.aload 6, 2) := by decide +kernel
theorem dX10_thrown_69 : decode cX10_thrown 69 = .ok (.iload 7, 2) := by decide +kernel
theorem dX10_thrown_71 : decode cX10_thrown 71 = .ok (.invokevirtual 129, 3) := by decide +kernel
theorem dX10_thrown_74 : decode cX10_thrown 74 = .ok (.goto 4, 3) := by decide +kernel
theorem dX10_thrown_77 : decode cX10_thrown 77 = .ok (.iconst (-1), 1) := by decide +kernel
theorem dX10_thrown_78 : decode cX10_thrown 78 = .ok (.ireturn, 1) := by decide +kernel
theorem dX10_good_0 : decode cX10_good 0 = .ok (.aload_n 0, 1) := by decide +kernel
theorem dX10_good_1 : decode cX10_good 1 = .ok (.getfield 32, 3) := by decide +kernel
theorem dX10_good_4 : decode cX10_good 4 = .ok (.iload_n 1, 1) := by decide +kernel
theorem dX10_good_5 : decode cX10_good 5 = .ok (.invokevirtual 111, 3) := by decide +kernel
theorem dX10_good_8 : decode cX10_good 8 = .ok (.astore_n 3, 1) := by decide +kernel
theorem dX10_good_9 : decode cX10_good 9 = .ok (.aload_n 3, 1) := by decide +kernel
theorem dX10_good_10 : decode cX10_good 10 = .ok (.ifnonnull 5, 3) := by decide +kernel
theorem dX10_good_13 : decode cX10_good 13 = .ok (.iconst (-1), 1) := by decide +kernel
theorem dX10_good_14 : decode cX10_good 14 = .ok (.ireturn, 1) := by decide +kernel
theorem dX10_good_15 : decode cX10_good 15 = .ok (.aload_n 0, 1) := by decide +kernel
theorem dX10_good_16 : decode cX10_good 16 = .ok (.getfield 53, 3) := by decide +kernel
theorem dX10_good_19 : decode cX10_good 19 = .ok (.aload_n 3, 1) := by decide +kernel
theorem dX10_good_20 : decode cX10_good 20 = .ok (.invokevirtual 132, 3) := by decide +kernel
theorem dX10_good_23 : decode cX10_good 23 = .ok (.istore 4, 2) := by decide +kernel
theorem dX10_good_25 : decode cX10_good 25 = .ok (.iload_n 2, 1) := by decide +kernel
theorem dX10_good_26 : decode cX10_good 26 = .ok (.tableswitch 112 0 4 #[34, 46, 65, 84, 99], 34) := by decide +kernel
theorem dX10_good_60 : decode cX10_good 60 = .ok (.iload 4, 2) := by decide +kernel
theorem dX10_good_62 : decode cX10_good 62 = .ok (.iconst (-1), 1) := by decide +kernel
theorem dX10_good_63 : decode cX10_good 63 = .ok (.if_icmp .ne 7, 3) := by decide +kernel
theorem dX10_good_66 : decode cX10_good 66 = .ok (.iconst 1, 1) := by decide +kernel
theorem dX10_good_67 : decode cX10_good 67 = .ok (.goto 4, 3) := by decide +kernel
theorem dX10_good_70 : decode cX10_good 70 = .ok (.iconst 0, 1) := by decide +kernel
theorem dX10_good_71 : decode cX10_good 71 = .ok (.ireturn, 1) := by decide +kernel
theorem dX10_good_72 : decode cX10_good 72 = .ok (.iload 4, 2) := by decide +kernel
theorem dX10_good_74 : decode cX10_good 74 = .ok (.iconst (-1), 1) := by decide +kernel
theorem dX10_good_75 : decode cX10_good 75 = .ok (.if_icmp .ne 7, 3) := by decide +kernel
theorem dX10_good_78 : decode cX10_good 78 = .ok (.iconst (-1), 1) := by decide +kernel
theorem dX10_good_79 : decode cX10_good 79 = .ok (.goto 11, 3) := by decide +kernel
theorem dX10_good_82 : decode cX10_good 82 = .ok (.aload_n 3, 1) := by decide +kernel
theorem dX10_good_83 : decode cX10_good 83 = .ok (.iload 4, 2) := by decide +kernel
theorem dX10_good_85 : decode cX10_good 85 = .ok (.iconst 2, 1) := by decide +kernel
theorem dX10_good_86 : decode cX10_good 86 = .ok (.imul, 1) := by decide +kernel
theorem dX10_good_87 : decode cX10_good 87 = .ok (.invokevirtual 136, 3) := by decide +kernel
theorem dX10_good_90 : decode cX10_good 90 = .ok (.ireturn, 1) := by decide +kernel
theorem dX10_good_91 : decode cX10_good 91 = .ok (.iload 4, 2) := by decide +kernel
theorem dX10_good_93 : decode cX10_good 93 = .ok (.iconst (-1), 1) := by decide +kernel
theorem dX10_good_94 : decode cX10_good 94 = .ok (.if_icmp .ne 7, 3) := by decide +kernel
theorem dX10_good_97 : decode cX10_good 97 = .ok (.iconst (-1), 1) := by decide +kernel
theorem dX10_good_98 : decode cX10_good 98 = .ok (.goto 11, 3) := by decide +kernel
theorem dX10_good_101 : decode cX10_good 101 = .ok (.aload_n 3, 1) := by decide +kernel
theorem dX10_good_102 : decode cX10_good 102 = .ok (.iload 4, 2) := by decide +kernel
theorem dX10_good_104 : decode cX10_good 104 = .ok (.iconst 2, 1) := by decide +kernel
theorem dX10_good_105 : decode cX10_good 105 = .ok (.imul, 1) := by decide +kernel
theorem dX10_good_106 : decode cX10_good 106 = .ok (.invokevirtual 139, 3) := by decide +kernel
theorem dX10_good_109 : decode cX10_good 109 = .ok (.ireturn, 1) := by decide +kernel
theorem dX10_good_110 : decode cX10_good 110 = .ok (.iload 4, 2) := by decide +kernel
theorem dX10_good_112 : decode cX10_good 112 = .ok (.iconst (-1), 1) := by decide +kernel
theorem dX10_good_113 : decode cX10_good 113 = .ok (.if_icmp .ne 10, 3) := by decide +kernel
theorem dX10_good_116 : decode cX10_good 116 = .ok (.aload_n 3, 1) := by decide +kernel
theorem dX10_good_117 : decode cX10_good 117 = .ok (.invokevirtual 142, 3) := by decide +kernel
theorem dX10_good_120 : decode cX10_good 120 = .ok (.goto 4, 3) := by decide +kernel
theorem dX10_good_123 : decode cX10_good 123 = .ok (.iconst (-1), 1) := by decide +kernel
theorem dX10_good_124 : decode cX10_good 124 = .ok (.ireturn, 1) := by decide +kernel
theorem dX10_good_125 : decode cX10_good 125 = .ok (.aload_n 3, 1) := by decide +kernel
theorem dX10_good_126 : decode cX10_good 126 = .ok (.invokevirtual 146, 3) := by decide +kernel
theorem dX10_good_129 : decode cX10_good 129 = .ok (.ifCond .eq 7, 3) := by decide +kernel
theorem dX10_good_132 : decode cX10_good 132 = .ok (.iconst 1, 1) := by decide +kernel
theorem dX10_good_133 : decode cX10_good 133 = .ok (.goto 4, 3) := by decide +kernel
theorem dX10_good_136 : decode cX10_good 136 = .ok (.iconst 0, 1) := by decide +kernel
theorem dX10_good_137 : decode cX10_good 137 = .ok (.ireturn, 1) := by decide +kernel
theorem dX10_good_138 : decode cX10_good 138 = .ok (.iconst (-1), 1) := by decide +kernel
theorem dX10_good_139 : decode cX10_good 139 = .ok (.ireturn, 1) := by decide +kernel
theorem dX10_cycles_0 : decode cX10_cycles 0 = .ok (.aload_n 0, 1) := by decide +kernel
theorem dX10_cycles_1 : decode cX10_cycles 1 = .ok (.getfield 53, 3) := by decide +kernel
theorem dX10_cycles_4 : decode cX10_cycles 4 = .ok (.aload_n 0, 1) := by decide +kernel
theorem dX10_cycles_5 : decode cX10_cycles 5 = .ok (.getfield 32, 3) := by decide +kernel
theorem dX10_cycles_8 : decode cX10_cycles 8 = .ok (.iload_n 1, 1) := by decide +kernel
theorem dX10_cycles_9 : decode cX10_cycles 9 = .ok (.invokevirtual 111, 3) := by decide +kernel
theorem dX10_cycles_12 : decode cX10_cycles 12 = .ok (.invokevirtual 149, 3) := by decide +kernel
theorem dX10_cycles_15 : decode cX10_cycles 15 = .ok (.ifCond .eq 13, 3) := by decide +kernel
theorem dX10_cycles_18 : decode cX10_cycles 18 = .ok (.aload_n 0, 1) := by decide +kernel
theorem dX10_cycles_19 : decode cX10_cycles 19 = .ok (.getfield 53, 3) := by decide +kernel
theorem dX10_cycles_22 : decode cX10_cycles 22 = .ok (.getfield 153, 3) := by decide +kernel
theorem dX10_cycles_25 : decode cX10_cycles 25 = .ok (.goto 4, 3) := by decide +kernel
theorem dX10_cycles_28 : decode cX10_cycles 28 = .ok (.iconst (-1), 1) := by decide +kernel
theorem dX10_cycles_29 : decode cX10_cycles 29 = .ok (.ireturn, 1) := by decide +kernel
theorem dX10_cycle_0 : decode cX10_cycle 0 = .ok (.aload_n 0, 1) := by decide +kernel
theorem dX10_cycle_1 : decode cX10_cycle 1 = .ok (.getfield 32, 3) := by decide +kernel
theorem dX10_cycle_4 : decode cX10_cycle 4 = .ok (.iload_n 1, 1) := by decide +kernel
theorem dX10_cycle_5 : decode cX10_cycle 5 = .ok (.invokevirtual 111, 3) := by decide +kernel
theorem dX10_cycle_8 : decode cX10_cycle 8 = .ok (.astore 4, 2) := by decide +kernel
theorem dX10_cycle_10 : decode cX10_cycle 10 = .ok (.aload 4, 2) := by decide +kernel
theorem dX10_cycle_12 : decode cX10_cycle 12 = .ok (.ifnull 30, 3) := by decide +kernel
theorem dX10_cycle_15 : decode cX10_cycle 15 = .ok (.aload_n 0, 1) := by decide +kernel
theorem dX10_cycle_16 : decode cX10_cycle 16 = .ok (.getfield 53, 3) := by decide +kernel
theorem dX10_cycle_19 : decode cX10_cycle 19 = .ok (.aload 4, 2) := by decide +kernel
theorem dX10_cycle_21 : decode cX10_cycle 21 = .ok (.invokevirtual 149, 3) := by decide +kernel
theorem dX10_cycle_24 : decode cX10_cycle 24 = .ok (.ifCond .eq 18, 3) := by decide +kernel
theorem dX10_cycle_27 : decode cX10_cycle 27 = .ok (.iload_n 2, 1) := by decide +kernel
theorem dX10_cycle_28 : decode cX10_cycle 28 = .ok (.ifCond .lt 14, 3) := by decide +kernel
theorem dX10_cycle_31 : decode cX10_cycle 31 = .ok (.iload_n 2, 1) := by decide +kernel
theorem dX10_cycle_32 : decode cX10_cycle 32 = .ok (.aload_n 0, 1) := by decide +kernel
theorem dX10_cycle_33 : decode cX10_cycle 33 = .ok (.getfield 53, 3) := by decide +kernel
theorem dX10_cycle_36 : decode cX10_cycle 36 = .ok (.getfield 153, 3) := by decide +kernel
theorem dX10_cycle_39 : decode cX10_cycle 39 = .ok (.if_icmp .lt 5, 3) := by decide +kernel
theorem dX10_cycle_42 : decode cX10_cycle 42 = .ok (.iconst (-1), 1) := by decide +kernel
theorem dX10_cycle_43 : decode cX10_cycle 43 = .ok (.ireturn, 1) := by decide +kernel
theorem dX10_cycle_44 : decode cX10_cycle 44 = .ok (.aload_n 0, 1) := by decide +kernel
theorem dX10_cycle_45 : decode cX10_cycle 45 = .ok (.getfield 53, 3) := by decide +kernel
theorem dX10_cycle_48 : decode cX10_cycle 48 = .ok (.getfield 156, 3) := by decide +kernel
theorem dX10_cycle_51 : decode cX10_cycle 51 = .ok (.iload_n 2, 1) := by decide +kernel
theorem dX10_cycle_52 : decode cX10_cycle 52 = .ok (.iaload, 1) := by decide +kernel
theorem dX10_cycle_53 : decode cX10_cycle 53 = .ok (.istore 5, 2) := by decide +kernel
theorem dX10_cycle_55 : decode cX10_cycle 55 = .ok (.iload_n 3, 1) := by decide +kernel
theorem dX10_cycle_56 : decode cX10_cycle 56 = .ok (.tableswitch 99 0 5 #[40, 50, 60, 75, 83, 91], 40) := by decide +kernel
theorem dX10_cycle_96 : decode cX10_cycle 96 = .ok (.aload_n 0, 1) := by decide +kernel
theorem dX10_cycle_97 : decode cX10_cycle 97 = .ok (.getfield 53, 3) := by decide +kernel
theorem dX10_cycle_100 : decode cX10_cycle 100 = .ok (.getfield 160, 3) := by decide +kernel
theorem dX10_cycle_103 : decode cX10_cycle 103 = .ok (.iload_n 2, 1) := by decide +kernel
theorem dX10_cycle_104 : decode cX10_cycle 104 = .ok (.iaload, 1) := by decide +kernel
theorem dX10_cycle_105 : decode cX10_cycle 105 = .ok (.ireturn, 1) := by decide +kernel
theorem dX10_cycle_106 : decode cX10_cycle 106 = .ok (.aload_n 0, 1) := by decide +kernel
theorem dX10_cycle_107 : decode cX10_cycle 107 = .ok (.getfield 53, 3) := by decide +kernel
theorem dX10_cycle_110 : decode cX10_cycle 110 = .ok (.getfield 163, 3) := by decide +kernel
theorem dX10_cycle_113 : decode cX10_cycle 113 = .ok (.iload_n 2, 1) := by decide +kernel
theorem dX10_cycle_114 : decode cX10_cycle 114 = .ok (.iaload, 1) := by decide +kernel
theorem dX10_cycle_115 : decode cX10_cycle 115 = .ok (.ireturn, 1) := by decide +kernel
theorem dX10_cycle_116 : decode cX10_cycle 116 = .ok (.aload 4, 2) := by decide +kernel
theorem dX10_cycle_118 : decode cX10_cycle 118 = .ok (.aload_n 0, 1) := by decide +kernel
theorem dX10_cycle_119 : decode cX10_cycle 119 = .ok (.getfield 53, 3) := by decide +kernel
theorem dX10_cycle_122 : decode cX10_cycle 122 = .ok (.getfield 163, 3) := by decide +kernel
theorem dX10_cycle_125 : decode cX10_cycle 125 = .ok (.iload_n 2, 1) := by decide +kernel
theorem dX10_cycle_126 : decode cX10_cycle 126 = .ok (.iaload, 1) := by decide +kernel
theorem dX10_cycle_127 : decode cX10_cycle 127 = .ok (.invokevirtual 166, 3) := by decide +kernel
theorem dX10_cycle_130 : decode cX10_cycle 130 = .ok (.ireturn, 1) := by decide +kernel
theorem dX10_cycle_131 : decode cX10_cycle 131 = .ok (.aload 4, 2) := by decide +kernel
theorem dX10_cycle_133 : decode cX10_cycle 133 = .ok (.iload 5, 2) := by decide +kernel
theorem dX10_cycle_135 : decode cX10_cycle 135 = .ok (.invokevirtual 136, 3) := by decide +kernel
theorem dX10_cycle_138 : decode cX10_cycle 138 = .ok (.ireturn, 1) := by decide +kernel
theorem dX10_cycle_139 : decode cX10_cycle 139 = .ok (.aload 4, 2) := by decide +kernel
theorem dX10_cycle_141 : decode cX10_cycle 141 = .ok (.iload 5, 2) := by decide +kernel
theorem dX10_cycle_143 : decode cX10_cycle 143 = .ok (.invokevirtual 139, 3) := by decide +kernel
theorem dX10_cycle_146 : decode cX10_cycle 146 = .ok (.ireturn, 1) := by decide +kernel
theorem dX10_cycle_147 : decode cX10_cycle 147 = .ok (.aload 4, 2) := by decide +kernel
theorem dX10_cycle_149 : decode cX10_cycle 149 = .ok (.iload 5, 2) := by decide +kernel
theorem dX10_cycle_151 : decode cX10_cycle 151 = .ok (.invokevirtual 169, 3) := by decide +kernel
theorem dX10_cycle_154 : decode cX10_cycle 154 = .ok (.ireturn, 1) := by decide +kernel
theorem dX10_cycle_155 : decode cX10_cycle 155 = .ok (.iconst (-1), 1) := by decide +kernel
theorem dX10_cycle_156 : decode cX10_cycle 156 = .ok (.ireturn, 1) := by decide +kernel
theorem dX10_cycleOf_0 : decode cX10_cycleOf 0 = .ok (.aload_n 0, 1) := by decide +kernel
theorem dX10_cycleOf_1 : decode cX10_cycleOf 1 = .ok (.getfield 32, 3) := by decide +kernel
theorem dX10_cycleOf_4 : decode cX10_cycleOf 4 = .ok (.iload_n 1, 1) := by decide +kernel
theorem dX10_cycleOf_5 : decode cX10_cycleOf 5 = .ok (.invokevirtual 111, 3) := by decide +kernel
theorem dX10_cycleOf_8 : decode cX10_cycleOf 8 = .ok (.astore 5, 2) := by decide +kernel
theorem dX10_cycleOf_10 : decode cX10_cycleOf 10 = .ok (.aload 5, 2) := by decide +kernel
theorem dX10_cycleOf_12 : decode cX10_cycleOf 12 = .ok (.ifnull 15, 3) := by decide +kernel
theorem dX10_cycleOf_15 : decode cX10_cycleOf 15 = .ok (.aload_n 0, 1) := by decide +kernel
theorem dX10_cycleOf_16 : decode cX10_cycleOf 16 = .ok (.getfield 53, 3) := by decide +kernel
theorem dX10_cycleOf_19 : decode cX10_cycleOf 19 = .ok (.aload 5, 2) := by decide +kernel
theorem dX10_cycleOf_21 : decode cX10_cycleOf 21 = .ok (.invokevirtual 149, 3) := by decide +kernel
theorem dX10_cycleOf_24 : decode cX10_cycleOf 24 = .ok (.ifCond .ne 5, 3) := by decide +kernel
theorem dX10_cycleOf_27 : decode cX10_cycleOf 27 = .ok (.iconst (-1), 1) := by decide +kernel
theorem dX10_cycleOf_28 : decode cX10_cycleOf 28 = .ok (.ireturn, 1) := by decide +kernel
theorem dX10_cycleOf_29 : decode cX10_cycleOf 29 = .ok (.aload 5, 2) := by decide +kernel
theorem dX10_cycleOf_31 : decode cX10_cycleOf 31 = .ok (.iload_n 2, 1) := by decide +kernel
theorem dX10_cycleOf_32 : decode cX10_cycleOf 32 = .ok (.iload_n 3, 1) := by decide +kernel
theorem dX10_cycleOf_33 : decode cX10_cycleOf 33 = .ok (.iload 4, 2) := by decide +kernel
theorem dX10_cycleOf_35 : decode cX10_cycleOf 35 = .ok (.invokevirtual 118, 3) := by decide +kernel
theorem dX10_cycleOf_38 : decode cX10_cycleOf 38 = .ok (.istore 6, 2) := by decide +kernel
theorem dX10_cycleOf_40 : decode cX10_cycleOf 40 = .ok (.iload 6, 2) := by decide +kernel
theorem dX10_cycleOf_42 : decode cX10_cycleOf 42 = .ok (.iconst (-1), 1) := by decide +kernel
theorem dX10_cycleOf_43 : decode cX10_cycleOf 43 = .ok (.if_icmp .ne 7, 3) := by decide +kernel
theorem dX10_cycleOf_46 : decode cX10_cycleOf 46 = .ok (.iconst (-1), 1) := by decide +kernel
theorem dX10_cycleOf_47 : decode cX10_cycleOf 47 = .ok (.goto 13, 3) := by decide +kernel
theorem dX10_cycleOf_50 : decode cX10_cycleOf 50 = .ok (.aload_n 0, 1) := by decide +kernel
theorem dX10_cycleOf_51 : decode cX10_cycleOf 51 = .ok (.getfield 53, 3) := by decide +kernel
theorem dX10_cycleOf_54 : decode cX10_cycleOf 54 = .ok (.getfield 172, 3) := by decide +kernel
theorem dX10_cycleOf_57 : decode cX10_cycleOf 57 = .ok (.iload 6, 2) := by decide +kernel
theorem dX10_cycleOf_59 : decode cX10_cycleOf 59 = .ok (.iaload, 1) := by decide +kernel
theorem dX10_cycleOf_60 : decode cX10_cycleOf 60 = .ok (.ireturn, 1) := by decide +kernel
theorem dX10_caught_0 : decode cX10_caught 0 = .ok (.aload_n 0, 1) := by decide +kernel
theorem dX10_caught_1 : decode cX10_caught 1 = .ok (.getfield 32, 3) := by decide +kernel
theorem dX10_caught_4 : decode cX10_caught 4 = .ok (.iload_n 1, 1) := by decide +kernel
theorem dX10_caught_5 : decode cX10_caught 5 = .ok (.invokevirtual 111, 3) := by decide +kernel
theorem dX10_caught_8 : decode cX10_caught 8 = .ok (.astore 6, 2) := by decide +kernel
theorem dX10_caught_10 : decode cX10_caught 10 = .ok (.aload 6, 2) := by decide +kernel
theorem dX10_caught_12 : decode cX10_caught 12 = .ok (.ifnull 26, 3) := by decide +kernel
theorem dX10_caught_15 : decode cX10_caught 15 = .ok (.iload_n 2, 1) := by decide +kernel
theorem dX10_caught_16 : decode cX10_caught 16 = .ok (.ifCond .lt 22, 3) := by decide +kernel
theorem dX10_caught_19 : decode cX10_caught 19 = .ok (.iload_n 2, 1) := by decide +kernel
theorem dX10_caught_20 : decode cX10_caught 20 = .ok (.sipush 999, 3) := by decide +kernel
theorem dX10_caught_23 : decode cX10_caught 23 = .ok (.if_icmp .gt 15, 3) := by decide +kernel
theorem dX10_caught_26 : decode cX10_caught 26 = .ok (.aload_n 0, 1) := by decide +kernel
theorem dX10_caught_27 : decode cX10_caught 27 = .ok (.getfield 53, 3) := by decide +kernel
theorem dX10_caught_30 : decode cX10_caught 30 = .ok (.aload 6, 2) := by decide +kernel
theorem dX10_caught_32 : decode cX10_caught 32 = .ok (.invokevirtual 149, 3) := by decide +kernel
theorem dX10_caught_35 : decode cX10_caught 35 = .ok (.ifCond .ne 5, 3) := by decide +kernel
theorem dX10_caught_38 : decode cX10_caught 38 = .ok (.iconst (-1), 1) := by decide +kernel
theorem dX10_caught_39 : decode cX10_caught 39 = .ok (.ireturn, 1) := by decide +kernel
theorem dX10_caught_40 : decode cX10_caught 40 = .ok (.aload 6, 2) := by decide +kernel
theorem dX10_caught_42 : decode cX10_caught 42 = .ok (.aload 6, 2) := by decide +kernel
theorem dX10_caught_44 : decode cX10_caught 44 = .ok (.iload_n 2, 1) := by decide +kernel
theorem dX10_caught_45 : decode cX10_caught 45 = .ok (.invokevirtual 175, 3) := by decide +kernel
theorem dX10_caught_48 : decode cX10_caught 48 = .ok (.iload_n 3, 1) := by decide +kernel
theorem dX10_caught_49 : decode cX10_caught 49 = .ok (.iload 4, 2) := by decide +kernel
theorem dX10_caught_51 : decode cX10_caught 51 = .ok (.invokevirtual 118, 3) := by decide +kernel
theorem dX10_caught_54 : decode cX10_caught 54 = .ok (.istore 7, 2) := by decide +kernel
theorem dX10_caught_56 : decode cX10_caught 56 = .ok (.iload 7, 2) := by decide +kernel
theorem dX10_caught_58 : decode cX10_caught 58 = .ok (.iconst (-1), 1) := by decide +kernel
theorem dX10_caught_59 : decode cX10_caught 59 = .ok (.if_icmp .eq 13, 3) := by decide +kernel
theorem dX10_caught_62 : decode cX10_caught 62 = .ok (.aload 6, 2) := by decide +kernel
theorem dX10_caught_64 : decode cX10_caught 64 = .ok (.iload 7, 2) := by decide +kernel
theorem dX10_caught_66 : decode cX10_caught 66 = .ok (.invokevirtual 126, 3) := by decide +kernel
theorem dX10_caught_69 : decode cX10_caught 69 = .ok (.ifCond .ne 5, 3) := by decide +kernel
theorem dX10_caught_72 : decode cX10_caught 72 = .ok (.iconst (-1), 1) := by decide +kernel
theorem dX10_caught_73 : decode cX10_caught 73 = .ok (.ireturn, 1) := by decide +kernel
theorem dX10_caught_74 : decode cX10_caught 74 = .ok (.iload 5, 2) := by decide +kernel
theorem dX10_caught_76 : decode cX10_caught 76 = .ok (.iconst 3, 1) := by decide +kernel
theorem dX10_caught_77 : decode cX10_caught 77 = .ok (.if_icmp .ne 14, 3) := by decide +kernel
theorem dX10_caught_80 : decode cX10_caught 80 = .ok (.aload_n 0, 1) := by decide +kernel
theorem dX10_caught_81 : decode cX10_caught 81 = .ok (.getfield 53, 3) := by decide +kernel
theorem dX10_caught_84 : decode cX10_caught 84 = .ok (.iload_n 2, 1) := by decide +kernel
theorem dX10_caught_85 : decode cX10_caught 85 = .ok (.iload 7, 2) := by decide +kernel
theorem dX10_caught_87 : decode cX10_caught 87 = .ok (.invokevirtual 178, 3) := by decide +kernel
theorem dX10_caught_90 : decode cX10_caught 90 = .ok (.ireturn, 1) := by decide +kernel
theorem dX10_caught_91 : decode cX10_caught 91 = .ok (.aload_n 0, 1) := by decide +kernel
theorem dX10_caught_92 : decode cX10_caught 92 = .ok (.getfield 53, 3) := by decide +kernel
theorem dX10_caught_95 : decode cX10_caught 95 = .ok (.getfield 181, 3) := by decide +kernel
theorem dX10_caught_98 : decode cX10_caught 98 = .ok (.iload 7, 2) := by decide +kernel
theorem dX10_caught_100 : decode cX10_caught 100 = .ok (.iaload, 1) := by decide +kernel
theorem dX10_caught_101 : decode cX10_caught 101 = .ok (.istore 8, 2) := by decide +kernel
theorem dX10_caught_103 : decode cX10_caught 103 = .ok (.iload_n 2, 1) := by decide +kernel
theorem dX10_caught_104 : decode cX10_caught 104 = .ok (.aload 6, 2) := by decide +kernel
theorem dX10_caught_106 : decode cX10_caught 106 = .ok (.iload 8, 2) := by decide +kernel
theorem dX10_caught_108 : decode cX10_caught 108 = .ok (.invokevirtual 122, 3) := by decide +kernel
theorem dX10_caught_111 : decode cX10_caught 111 = .ok (.isub, 1) := by decide +kernel
theorem dX10_caught_112 : decode cX10_caught 112 = .ok (.istore 9, 2) := by decide +kernel
theorem dX10_caught_114 : decode cX10_caught 114 = .ok (.iload 9, 2) := by decide +kernel
theorem dX10_caught_116 : decode cX10_caught 116 = .ok (.ifCond .ge 5, 3) := by decide +kernel
theorem dX10_caught_119 : decode cX10_caught 119 = .ok (.iconst (-1), 1) := by decide +kernel
theorem dX10_caught_120 : decode cX10_caught 120 = .ok (.ireturn, 1) := by decide +kernel
theorem dX10_caught_121 : decode cX10_caught 121 = .ok (.iload 5, 2) := by decide +kernel
theorem dX10_caught_123 : decode cX10_caught 123 = .ok (.tableswitch 44 0 2 #[25, 28, 36], 25) := by decide +kernel
theorem dX10_caught_148 : decode cX10_caught 148 = .ok (.iload 9, 2) := by decide +kernel
theorem dX10_caught_150 : decode cX10_caught 150 = .ok (.ireturn, 1) := by decide +kernel
theorem dX10_caught_151 : decode cX10_caught 151 = .ok (.aload 6, 2) := by decide +kernel
theorem dX10_caught_153 : decode cX10_caught 153 = .ok (.iload 8, 2) := by decide +kernel
theorem dX10_caught_155 : decode cX10_caught 155 = .ok (.invokevirtual 139, 3) := by decide +kernel
theorem dX10_caught_158 : decode cX10_caught 158 = .ok (.ireturn, 1) := by decide +kernel
theorem dX10_caught_159 : decode cX10_caught 159 = .ok (.aload 6, 2) := by decide +kernel
theorem dX10_caught_161 : decode cX10_caught 161 = .ok (.iload 8, 2) := by decide +kernel
theorem dX10_caught_163 : decode cX10_caught 163 = .ok (.invokevirtual 169, 3) := by decide +kernel
theorem dX10_caught_166 : decode cX10_caught 166 = .ok (.ireturn, 1) := by decide +kernel
theorem dX10_caught_167 : decode cX10_caught 167 = .ok (.iconst (-1), 1) := by decide +kernel
theorem dX10_caught_168 : decode cX10_caught 168 = .ok (.ireturn, 1) := by decide +kernel
theorem dX10_state_0 : decode cX10_state 0 = .ok (.aload_n 0, 1) := by decide +kernel
theorem dX10_state_1 : decode cX10_state 1 = .ok (.getfield 32, 3) := by decide +kernel
theorem dX10_state_4 : decode cX10_state 4 = .ok (.iload_n 1, 1) := by decide +kernel
theorem dX10_state_5 : decode cX10_state 5 = .ok (.invokevirtual 111, 3) := by decide +kernel
theorem dX10_state_8 : decode cX10_state 8 = .ok (.astore_n 3, 1) := by decide +kernel
theorem dX10_state_9 : decode cX10_state 9 = .ok (.aload_n 0, 1) := by decide +kernel
theorem dX10_state_10 : decode cX10_state 10 = .ok (.aload_n 3, 1) := by decide +kernel
theorem dX10_state_11 : decode cX10_state 11 = .ok (.invokevirtual 184, 3) := by decide +kernel
theorem dX10_state_14 : decode cX10_state 14 = .ok (.ifCond .eq 15, 3) := by decide +kernel
theorem dX10_state_17 : decode cX10_state 17 = .ok (.iload_n 2, 1) := by decide +kernel
theorem dX10_state_18 : decode cX10_state 18 = .ok (.ifCond .lt 11, 3) := by decide +kernel
theorem dX10_state_21 : decode cX10_state 21 = .ok (.iload_n 2, 1) := by decide +kernel
theorem dX10_state_22 : decode cX10_state 22 = .ok (.aload_n 3, 1) := by decide +kernel
theorem dX10_state_23 : decode cX10_state 23 = .ok (.getfield 115, 3) := by decide +kernel
theorem dX10_state_26 : decode cX10_state 26 = .ok (.if_icmp .lt 5, 3) := by decide +kernel
theorem dX10_state_29 : decode cX10_state 29 = .ok (.iconst (-1), 1) := by decide +kernel
theorem dX10_state_30 : decode cX10_state 30 = .ok (.ireturn, 1) := by decide +kernel
theorem dX10_state_31 : decode cX10_state 31 = .ok (.aload_n 3, 1) := by decide +kernel
theorem dX10_state_32 : decode cX10_state 32 = .ok (.iload_n 2, 1) := by decide +kernel
theorem dX10_state_33 : decode cX10_state 33 = .ok (.invokestatic 187, 3) := by decide +kernel
theorem dX10_state_36 : decode cX10_state 36 = .ok (.ireturn, 1) := by decide +kernel
theorem dX10_clear_0 : decode cX10_clear 0 = .ok (.aload_n 0, 1) := by decide +kernel
theorem dX10_clear_1 : decode cX10_clear 1 = .ok (.getfield 67, 3) := by decide +kernel
theorem dX10_clear_4 : decode cX10_clear 4 = .ok (.getfield 200, 3) := by decide +kernel
theorem dX10_clear_7 : decode cX10_clear 7 = .ok (.istore_n 1, 1) := by decide +kernel
theorem dX10_clear_8 : decode cX10_clear 8 = .ok (.aload_n 0, 1) := by decide +kernel
theorem dX10_clear_9 : decode cX10_clear 9 = .ok (.getfield 67, 3) := by decide +kernel
theorem dX10_clear_12 : decode cX10_clear 12 = .ok (.iconst 0, 1) := by decide +kernel
theorem dX10_clear_13 : decode cX10_clear 13 = .ok (.putfield 200, 3) := by decide +kernel
theorem dX10_clear_16 : decode cX10_clear 16 = .ok (.iload_n 1, 1) := by decide +kernel
theorem dX10_clear_17 : decode cX10_clear 17 = .ok (.ireturn, 1) := by decide +kernel
theorem dX10_add_0 : decode cX10_add 0 = .ok (.aload_n 0, 1) := by decide +kernel
theorem dX10_add_1 : decode cX10_add 1 = .ok (.getfield 32, 3) := by decide +kernel
theorem dX10_add_4 : decode cX10_add 4 = .ok (.iload_n 1, 1) := by decide +kernel
theorem dX10_add_5 : decode cX10_add 5 = .ok (.invokevirtual 111, 3) := by decide +kernel
theorem dX10_add_8 : decode cX10_add 8 = .ok (.astore_n 3, 1) := by decide +kernel
theorem dX10_add_9 : decode cX10_add 9 = .ok (.aload_n 0, 1) := by decide +kernel
theorem dX10_add_10 : decode cX10_add 10 = .ok (.aload_n 3, 1) := by decide +kernel
theorem dX10_add_11 : decode cX10_add 11 = .ok (.invokevirtual 184, 3) := by decide +kernel
theorem dX10_add_14 : decode cX10_add 14 = .ok (.ifCond .eq 14, 3) := by decide +kernel
theorem dX10_add_17 : decode cX10_add 17 = .ok (.iload_n 2, 1) := by decide +kernel
theorem dX10_add_18 : decode cX10_add 18 = .ok (.iconst 1, 1) := by decide +kernel
theorem dX10_add_19 : decode cX10_add 19 = .ok (.if_icmp .lt 9, 3) := by decide +kernel
theorem dX10_add_22 : decode cX10_add 22 = .ok (.iload_n 2, 1) := by decide +kernel
theorem dX10_add_23 : decode cX10_add 23 = .ok (.bipush 50, 2) := by decide +kernel
theorem dX10_add_25 : decode cX10_add 25 = .ok (.if_icmp .le 5, 3) := by decide +kernel
theorem dX10_add_28 : decode cX10_add 28 = .ok (.iconst (-1), 1) := by decide +kernel
theorem dX10_add_29 : decode cX10_add 29 = .ok (.ireturn, 1) := by decide +kernel
theorem dX10_add_30 : decode cX10_add 30 = .ok (.aload_n 3, 1) := by decide +kernel
theorem dX10_add_31 : decode cX10_add 31 = .ok (.iconst 0, 1) := by decide +kernel
theorem dX10_add_32 : decode cX10_add 32 = .ok (.invokestatic 187, 3) := by decide +kernel
theorem dX10_add_35 : decode cX10_add 35 = .ok (.istore 4, 2) := by decide +kernel
theorem dX10_add_37 : decode cX10_add 37 = .ok (.aload_n 0, 1) := by decide +kernel
theorem dX10_add_38 : decode cX10_add 38 = .ok (.getfield 67, 3) := by decide +kernel
theorem dX10_add_41 : decode cX10_add 41 = .ok (.getfield 200, 3) := by decide +kernel
theorem dX10_add_44 : decode cX10_add 44 = .ok (.ifCond .ne 7, 3) := by decide +kernel
theorem dX10_add_47 : decode cX10_add 47 = .ok (.iconst 0, 1) := by decide +kernel
theorem dX10_add_48 : decode cX10_add 48 = .ok (.goto 19, 3) := by decide +kernel
theorem dX10_add_51 : decode cX10_add 51 = .ok (.aload_n 0, 1) := by decide +kernel
theorem dX10_add_52 : decode cX10_add 52 = .ok (.getfield 60, 3) := by decide +kernel
theorem dX10_add_55 : decode cX10_add 55 = .ok (.aload_n 0, 1) := by decide +kernel
theorem dX10_add_56 : decode cX10_add 56 = .ok (.getfield 67, 3) := by decide +kernel
theorem dX10_add_59 : decode cX10_add 59 = .ok (.getfield 201, 3) := by decide +kernel
theorem dX10_add_62 : decode cX10_add 62 = .ok (.iload 4, 2) := by decide +kernel
theorem dX10_add_64 : decode cX10_add 64 = .ok (.invokevirtual 191, 3) := by decide +kernel
theorem dX10_add_67 : decode cX10_add 67 = .ok (.istore 5, 2) := by decide +kernel
theorem dX10_add_69 : decode cX10_add 69 = .ok (.iload 5, 2) := by decide +kernel
theorem dX10_add_71 : decode cX10_add 71 = .ok (.iconst (-1), 1) := by decide +kernel
theorem dX10_add_72 : decode cX10_add 72 = .ok (.if_icmp .eq 22, 3) := by decide +kernel
theorem dX10_add_75 : decode cX10_add 75 = .ok (.aload_n 0, 1) := by decide +kernel
theorem dX10_add_76 : decode cX10_add 76 = .ok (.getfield 67, 3) := by decide +kernel
theorem dX10_add_79 : decode cX10_add 79 = .ok (.iload 5, 2) := by decide +kernel
theorem dX10_add_81 : decode cX10_add 81 = .ok (.iload_n 2, 1) := by decide +kernel
theorem dX10_add_82 : decode cX10_add 82 = .ok (.aload_n 3, 1) := by decide +kernel
theorem dX10_add_83 : decode cX10_add 83 = .ok (.getfield 115, 3) := by decide +kernel
theorem dX10_add_86 : decode cX10_add 86 = .ok (.imul, 1) := by decide +kernel
theorem dX10_add_87 : decode cX10_add 87 = .ok (.iadd, 1) := by decide +kernel
theorem dX10_add_88 : decode cX10_add 88 = .ok (.invokevirtual 204, 3) := by decide +kernel
theorem dX10_add_91 : decode cX10_add 91 = .ok (.ifCond .ne 5, 3) := by decide +kernel
theorem dX10_add_94 : decode cX10_add 94 = .ok (.iconst (-1), 1) := by decide +kernel
theorem dX10_add_95 : decode cX10_add 95 = .ok (.ireturn, 1) := by decide +kernel
theorem dX10_add_96 : decode cX10_add 96 = .ok (.iconst 0, 1) := by decide +kernel
theorem dX10_add_97 : decode cX10_add 97 = .ok (.istore 6, 2) := by decide +kernel
theorem dX10_add_99 : decode cX10_add 99 = .ok (.iload 6, 2) := by decide +kernel
theorem dX10_add_101 : decode cX10_add 101 = .ok (.iload 5, 2) := by decide +kernel
theorem dX10_add_103 : decode cX10_add 103 = .ok (.if_icmp .ge 27, 3) := by decide +kernel
theorem dX10_add_106 : decode cX10_add 106 = .ok (.aload_n 0, 1) := by decide +kernel
theorem dX10_add_107 : decode cX10_add 107 = .ok (.getfield 67, 3) := by decide +kernel
theorem dX10_add_110 : decode cX10_add 110 = .ok (.aload_n 0, 1) := by decide +kernel
theorem dX10_add_111 : decode cX10_add 111 = .ok (.getfield 60, 3) := by decide +kernel
theorem dX10_add_114 : decode cX10_add 114 = .ok (.getfield 194, 3) := by decide +kernel
theorem dX10_add_117 : decode cX10_add 117 = .ok (.iload 6, 2) := by decide +kernel
theorem dX10_add_119 : decode cX10_add 119 = .ok (.iaload, 1) := by decide +kernel
theorem dX10_add_120 : decode cX10_add 120 = .ok (.iconst (-1), 1) := by decide +kernel
theorem dX10_add_121 : decode cX10_add 121 = .ok (.invokevirtual 205, 3) := by decide +kernel
theorem dX10_add_124 : decode cX10_add 124 = .ok (.iinc 6 1, 3) := by decide +kernel
theorem dX10_add_127 : decode cX10_add 127 = .ok (.goto (-28), 3) := by decide +kernel
theorem dX10_add_130 : decode cX10_add 130 = .ok (.iconst 0, 1) := by decide +kernel
theorem dX10_add_131 : decode cX10_add 131 = .ok (.istore 6, 2) := by decide +kernel
theorem dX10_add_133 : decode cX10_add 133 = .ok (.iload 6, 2) := by decide +kernel
theorem dX10_add_135 : decode cX10_add 135 = .ok (.iload_n 2, 1) := by decide +kernel
theorem dX10_add_136 : decode cX10_add 136 = .ok (.if_icmp .ge 18, 3) := by decide +kernel
theorem dX10_add_139 : decode cX10_add 139 = .ok (.aload_n 0, 1) := by decide +kernel
theorem dX10_add_140 : decode cX10_add 140 = .ok (.getfield 67, 3) := by decide +kernel
theorem dX10_add_143 : decode cX10_add 143 = .ok (.aload_n 3, 1) := by decide +kernel
theorem dX10_add_144 : decode cX10_add 144 = .ok (.iload_n 1, 1) := by decide +kernel
theorem dX10_add_145 : decode cX10_add 145 = .ok (.invokevirtual 209, 3) := by decide +kernel
theorem dX10_add_148 : decode cX10_add 148 = .ok (.iinc 6 1, 3) := by decide +kernel
theorem dX10_add_151 : decode cX10_add 151 = .ok (.goto (-18), 3) := by decide +kernel
theorem dX10_add_154 : decode cX10_add 154 = .ok (.aload_n 0, 1) := by decide +kernel
theorem dX10_add_155 : decode cX10_add 155 = .ok (.getfield 67, 3) := by decide +kernel
theorem dX10_add_158 : decode cX10_add 158 = .ok (.iload 4, 2) := by decide +kernel
theorem dX10_add_160 : decode cX10_add 160 = .ok (.putfield 201, 3) := by decide +kernel
theorem dX10_add_163 : decode cX10_add 163 = .ok (.aload_n 0, 1) := by decide +kernel
theorem dX10_add_164 : decode cX10_add 164 = .ok (.getfield 67, 3) := by decide +kernel
theorem dX10_add_167 : decode cX10_add 167 = .ok (.getfield 200, 3) := by decide +kernel
theorem dX10_add_170 : decode cX10_add 170 = .ok (.ireturn, 1) := by decide +kernel
theorem dX10_score_0 : decode cX10_score 0 = .ok (.iload_n 1, 1) := by decide +kernel
theorem dX10_score_1 : decode cX10_score 1 = .ok (.ifCond .lt 14, 3) := by decide +kernel
theorem dX10_score_4 : decode cX10_score 4 = .ok (.iload_n 1, 1) := by decide +kernel
theorem dX10_score_5 : decode cX10_score 5 = .ok (.aload_n 0, 1) := by decide +kernel
theorem dX10_score_6 : decode cX10_score 6 = .ok (.getfield 67, 3) := by decide +kernel
theorem dX10_score_9 : decode cX10_score 9 = .ok (.getfield 200, 3) := by decide +kernel
theorem dX10_score_12 : decode cX10_score 12 = .ok (.if_icmp .lt 5, 3) := by decide +kernel
theorem dX10_score_15 : decode cX10_score 15 = .ok (.iconst (-1), 1) := by decide +kernel
theorem dX10_score_16 : decode cX10_score 16 = .ok (.ireturn, 1) := by decide +kernel
theorem dX10_score_17 : decode cX10_score 17 = .ok (.iload_n 2, 1) := by decide +kernel
theorem dX10_score_18 : decode cX10_score 18 = .ok (.ifCond .ne 13, 3) := by decide +kernel
theorem dX10_score_21 : decode cX10_score 21 = .ok (.aload_n 0, 1) := by decide +kernel
theorem dX10_score_22 : decode cX10_score 22 = .ok (.getfield 67, 3) := by decide +kernel
theorem dX10_score_25 : decode cX10_score 25 = .ok (.getfield 213, 3) := by decide +kernel
theorem dX10_score_28 : decode cX10_score 28 = .ok (.iload_n 1, 1) := by decide +kernel
theorem dX10_score_29 : decode cX10_score 29 = .ok (.iaload, 1) := by decide +kernel
theorem dX10_score_30 : decode cX10_score 30 = .ok (.ireturn, 1) := by decide +kernel
theorem dX10_score_31 : decode cX10_score 31 = .ok (.iload_n 2, 1) := by decide +kernel
theorem dX10_score_32 : decode cX10_score 32 = .ok (.iconst 1, 1) := by decide +kernel
theorem dX10_score_33 : decode cX10_score 33 = .ok (.if_icmp .ne 15, 3) := by decide +kernel
theorem dX10_score_36 : decode cX10_score 36 = .ok (.aload_n 0, 1) := by decide +kernel
theorem dX10_score_37 : decode cX10_score 37 = .ok (.getfield 67, 3) := by decide +kernel
theorem dX10_score_40 : decode cX10_score 40 = .ok (.getfield 214, 3) := by decide +kernel
theorem dX10_score_43 : decode cX10_score 43 = .ok (.iload_n 1, 1) := by decide +kernel
theorem dX10_score_44 : decode cX10_score 44 = .ok (.iaload, 1) := by decide +kernel
theorem dX10_score_45 : decode cX10_score 45 = .ok (.goto 4, 3) := by decide +kernel
theorem dX10_score_48 : decode cX10_score 48 = .ok (.iconst (-1), 1) := by decide +kernel
theorem dX10_score_49 : decode cX10_score 49 = .ok (.ireturn, 1) := by decide +kernel
theorem dX10_seen_0 : decode cX10_seen 0 = .ok (.aload_n 0, 1) := by decide +kernel
theorem dX10_seen_1 : decode cX10_seen 1 = .ok (.getfield 32, 3) := by decide +kernel
theorem dX10_seen_4 : decode cX10_seen 4 = .ok (.invokevirtual 217, 3) := by decide +kernel
theorem dX10_seen_7 : decode cX10_seen 7 = .ok (.astore_n 2, 1) := by decide +kernel
theorem dX10_seen_8 : decode cX10_seen 8 = .ok (.aload_n 2, 1) := by decide +kernel
theorem dX10_seen_9 : decode cX10_seen 9 = .ok (.ifnonnull 7, 3) := by decide +kernel
theorem dX10_seen_12 : decode cX10_seen 12 = .ok (.iconst 0, 1) := by decide +kernel
theorem dX10_seen_13 : decode cX10_seen 13 = .ok (.goto 7, 3) := by decide +kernel
theorem dX10_seen_16 : decode cX10_seen 16 = .ok (.aload_n 2, 1) := by decide +kernel
theorem dX10_seen_17 : decode cX10_seen 17 = .ok (.getfield 221, 3) := by decide +kernel
theorem dX10_seen_20 : decode cX10_seen 20 = .ok (.istore_n 3, 1) := by decide +kernel
theorem dX10_seen_21 : decode cX10_seen 21 = .ok (.iload_n 1, 1) := by decide +kernel
theorem dX10_seen_22 : decode cX10_seen 22 = .ok (.ifCond .ne 5, 3) := by decide +kernel
theorem dX10_seen_25 : decode cX10_seen 25 = .ok (.iload_n 3, 1) := by decide +kernel
theorem dX10_seen_26 : decode cX10_seen 26 = .ok (.ireturn, 1) := by decide +kernel
theorem dX10_seen_27 : decode cX10_seen 27 = .ok (.iload_n 1, 1) := by decide +kernel
theorem dX10_seen_28 : decode cX10_seen 28 = .ok (.bipush 10, 2) := by decide +kernel
theorem dX10_seen_30 : decode cX10_seen 30 = .ok (.if_icmp .lt 11, 3) := by decide +kernel
theorem dX10_seen_33 : decode cX10_seen 33 = .ok (.iload_n 1, 1) := by decide +kernel
theorem dX10_seen_34 : decode cX10_seen 34 = .ok (.bipush 10, 2) := by decide +kernel
theorem dX10_seen_36 : decode cX10_seen 36 = .ok (.isub, 1) := by decide +kernel
theorem dX10_seen_37 : decode cX10_seen 37 = .ok (.iload_n 3, 1) := by decide +kernel
theorem dX10_seen_38 : decode cX10_seen 38 = .ok (.if_icmp .lt 7, 3) := by decide +kernel
theorem dX10_seen_41 : decode cX10_seen 41 = .ok (.iconst (-1), 1) := by decide +kernel
theorem dX10_seen_42 : decode cX10_seen 42 = .ok (.goto 12, 3) := by decide +kernel
theorem dX10_seen_45 : decode cX10_seen 45 = .ok (.aload_n 2, 1) := by decide +kernel
theorem dX10_seen_46 : decode cX10_seen 46 = .ok (.getfield 224, 3) := by decide +kernel
theorem dX10_seen_49 : decode cX10_seen 49 = .ok (.iload_n 1, 1) := by decide +kernel
theorem dX10_seen_50 : decode cX10_seen 50 = .ok (.bipush 10, 2) := by decide +kernel
theorem dX10_seen_52 : decode cX10_seen 52 = .ok (.isub, 1) := by decide +kernel
theorem dX10_seen_53 : decode cX10_seen 53 = .ok (.iaload, 1) := by decide +kernel
theorem dX10_seen_54 : decode cX10_seen 54 = .ok (.ireturn, 1) := by decide +kernel
theorem dX10_whole_0 : decode cX10_whole 0 = .ok (.aload_n 0, 1) := by decide +kernel
theorem dX10_whole_1 : decode cX10_whole 1 = .ok (.getfield 32, 3) := by decide +kernel
theorem dX10_whole_4 : decode cX10_whole 4 = .ok (.invokevirtual 217, 3) := by decide +kernel
theorem dX10_whole_7 : decode cX10_whole 7 = .ok (.astore_n 3, 1) := by decide +kernel
theorem dX10_whole_8 : decode cX10_whole 8 = .ok (.aload_n 3, 1) := by decide +kernel
theorem dX10_whole_9 : decode cX10_whole 9 = .ok (.ifnull 13, 3) := by decide +kernel
theorem dX10_whole_12 : decode cX10_whole 12 = .ok (.iload_n 1, 1) := by decide +kernel
theorem dX10_whole_13 : decode cX10_whole 13 = .ok (.ifCond .lt 9, 3) := by decide +kernel
theorem dX10_whole_16 : decode cX10_whole 16 = .ok (.iload_n 1, 1) := by decide +kernel
theorem dX10_whole_17 : decode cX10_whole 17 = .ok (.bipush 9, 2) := by decide +kernel
theorem dX10_whole_19 : decode cX10_whole 19 = .ok (.if_icmp .le 5, 3) := by decide +kernel
theorem dX10_whole_22 : decode cX10_whole 22 = .ok (.iconst (-1), 1) := by decide +kernel
theorem dX10_whole_23 : decode cX10_whole 23 = .ok (.ireturn, 1) := by decide +kernel
theorem dX10_whole_24 : decode cX10_whole 24 = .ok (.aload_n 0, 1) := by decide +kernel
theorem dX10_whole_25 : decode cX10_whole 25 = .ok (.getfield 74, 3) := by decide +kernel
theorem dX10_whole_28 : decode cX10_whole 28 = .ok (.aload_n 3, 1) := by decide +kernel
theorem dX10_whole_29 : decode cX10_whole 29 = .ok (.iload_n 1, 1) := by decide +kernel
theorem dX10_whole_30 : decode cX10_whole 30 = .ok (.invokevirtual 225, 3) := by decide +kernel
theorem dX10_whole_33 : decode cX10_whole 33 = .ok (.istore 4, 2) := by decide +kernel
theorem dX10_whole_35 : decode cX10_whole 35 = .ok (.iload_n 2, 1) := by decide +kernel
theorem dX10_whole_36 : decode cX10_whole 36 = .ok (.iconst (-1), 1) := by decide +kernel
theorem dX10_whole_37 : decode cX10_whole 37 = .ok (.if_icmp .ne 6, 3) := by decide +kernel
theorem dX10_whole_40 : decode cX10_whole 40 = .ok (.iload 4, 2) := by decide +kernel
theorem dX10_whole_42 : decode cX10_whole 42 = .ok (.ireturn, 1) := by decide +kernel
theorem dX10_whole_43 : decode cX10_whole 43 = .ok (.iload 4, 2) := by decide +kernel
theorem dX10_whole_45 : decode cX10_whole 45 = .ok (.ifCond .eq 15, 3) := by decide +kernel
theorem dX10_whole_48 : decode cX10_whole 48 = .ok (.iload_n 2, 1) := by decide +kernel
theorem dX10_whole_49 : decode cX10_whole 49 = .ok (.ifCond .lt 11, 3) := by decide +kernel
theorem dX10_whole_52 : decode cX10_whole 52 = .ok (.iload_n 2, 1) := by decide +kernel
theorem dX10_whole_53 : decode cX10_whole 53 = .ok (.aload_n 3, 1) := by decide +kernel
theorem dX10_whole_54 : decode cX10_whole 54 = .ok (.getfield 221, 3) := by decide +kernel
theorem dX10_whole_57 : decode cX10_whole 57 = .ok (.if_icmp .lt 7, 3) := by decide +kernel
theorem dX10_whole_60 : decode cX10_whole 60 = .ok (.iconst (-1), 1) := by decide +kernel
theorem dX10_whole_61 : decode cX10_whole 61 = .ok (.goto 12, 3) := by decide +kernel
theorem dX10_whole_64 : decode cX10_whole 64 = .ok (.aload_n 0, 1) := by decide +kernel
theorem dX10_whole_65 : decode cX10_whole 65 = .ok (.getfield 74, 3) := by decide +kernel
theorem dX10_whole_68 : decode cX10_whole 68 = .ok (.getfield 229, 3) := by decide +kernel
theorem dX10_whole_71 : decode cX10_whole 71 = .ok (.iload_n 2, 1) := by decide +kernel
theorem dX10_whole_72 : decode cX10_whole 72 = .ok (.iaload, 1) := by decide +kernel
theorem dX10_whole_73 : decode cX10_whole 73 = .ok (.ireturn, 1) := by decide +kernel
theorem dX10_drop_0 : decode cX10_drop 0 = .ok (.aload_n 0, 1) := by decide +kernel
theorem dX10_drop_1 : decode cX10_drop 1 = .ok (.getfield 32, 3) := by decide +kernel
theorem dX10_drop_4 : decode cX10_drop 4 = .ok (.iload_n 1, 1) := by decide +kernel
theorem dX10_drop_5 : decode cX10_drop 5 = .ok (.invokevirtual 111, 3) := by decide +kernel
theorem dX10_drop_8 : decode cX10_drop 8 = .ok (.astore 4, 2) := by decide +kernel
theorem dX10_drop_10 : decode cX10_drop 10 = .ok (.iload_n 3, 1) := by decide +kernel
theorem dX10_drop_11 : decode cX10_drop 11 = .ok (.ifCond .lt 36, 3) := by decide +kernel
theorem dX10_drop_14 : decode cX10_drop 14 = .ok (.iload_n 3, 1) := by decide +kernel
theorem dX10_drop_15 : decode cX10_drop 15 = .ok (.bipush 8, 2) := by decide +kernel
theorem dX10_drop_17 : decode cX10_drop 17 = .ok (.if_icmp .ge 30, 3) := by decide +kernel
theorem dX10_drop_20 : decode cX10_drop 20 = .ok (.aload_n 0, 1) := by decide +kernel
theorem dX10_drop_21 : decode cX10_drop 21 = .ok (.getfield 32, 3) := by decide +kernel
theorem dX10_drop_24 : decode cX10_drop 24 = .ok (.invokevirtual 89, 3) := by decide +kernel
theorem dX10_drop_27 : decode cX10_drop 27 = .ok (.ifCond .ne 20, 3) := by decide +kernel
theorem dX10_drop_30 : decode cX10_drop 30 = .ok (.aload 4, 2) := by decide +kernel
theorem dX10_drop_32 : decode cX10_drop 32 = .ok (.ifnull 15, 3) := by decide +kernel
theorem dX10_drop_35 : decode cX10_drop 35 = .ok (.aload_n 0, 1) := by decide +kernel
theorem dX10_drop_36 : decode cX10_drop 36 = .ok (.getfield 53, 3) := by decide +kernel
theorem dX10_drop_39 : decode cX10_drop 39 = .ok (.aload 4, 2) := by decide +kernel
theorem dX10_drop_41 : decode cX10_drop 41 = .ok (.invokevirtual 149, 3) := by decide +kernel
theorem dX10_drop_44 : decode cX10_drop 44 = .ok (.ifCond .ne 5, 3) := by decide +kernel
theorem dX10_drop_47 : decode cX10_drop 47 = .ok (.iconst (-1), 1) := by decide +kernel
theorem dX10_drop_48 : decode cX10_drop 48 = .ok (.ireturn, 1) := by decide +kernel
theorem dX10_drop_49 : decode cX10_drop 49 = .ok (.aload_n 0, 1) := by decide +kernel
theorem dX10_drop_50 : decode cX10_drop 50 = .ok (.getfield 53, 3) := by decide +kernel
theorem dX10_drop_53 : decode cX10_drop 53 = .ok (.getfield 153, 3) := by decide +kernel
theorem dX10_drop_56 : decode cX10_drop 56 = .ok (.bipush 32, 2) := by decide +kernel
theorem dX10_drop_58 : decode cX10_drop 58 = .ok (.if_icmp .ge 17, 3) := by decide +kernel
theorem dX10_drop_61 : decode cX10_drop 61 = .ok (.iload_n 2, 1) := by decide +kernel
theorem dX10_drop_62 : decode cX10_drop 62 = .ok (.aload_n 0, 1) := by decide +kernel
theorem dX10_drop_63 : decode cX10_drop 63 = .ok (.getfield 53, 3) := by decide +kernel
theorem dX10_drop_66 : decode cX10_drop 66 = .ok (.getfield 153, 3) := by decide +kernel
theorem dX10_drop_69 : decode cX10_drop 69 = .ok (.iushr, 1) := by decide +kernel
theorem dX10_drop_70 : decode cX10_drop 70 = .ok (.ifCond .eq 5, 3) := by decide +kernel
theorem dX10_drop_73 : decode cX10_drop 73 = .ok (.iconst (-1), 1) := by decide +kernel
theorem dX10_drop_74 : decode cX10_drop 74 = .ok (.ireturn, 1) := by decide +kernel
theorem dX10_drop_75 : decode cX10_drop 75 = .ok (.aload_n 0, 1) := by decide +kernel
theorem dX10_drop_76 : decode cX10_drop 76 = .ok (.getfield 53, 3) := by decide +kernel
theorem dX10_drop_79 : decode cX10_drop 79 = .ok (.iload_n 2, 1) := by decide +kernel
theorem dX10_drop_80 : decode cX10_drop 80 = .ok (.invokevirtual 232, 3) := by decide +kernel
theorem dX10_drop_83 : decode cX10_drop 83 = .ok (.astore 5, 2) := by decide +kernel
theorem dX10_drop_85 : decode cX10_drop 85 = .ok (.aload_n 0, 1) := by decide +kernel
theorem dX10_drop_86 : decode cX10_drop 86 = .ok (.getfield 32, 3) := by decide +kernel
theorem dX10_drop_89 : decode cX10_drop 89 = .ok (.invokevirtual 235, 3) := by decide +kernel
theorem dX10_drop_92 : decode cX10_drop 92 = .ok (.aload_n 0, 1) := by decide +kernel
theorem dX10_drop_93 : decode cX10_drop 93 = .ok (.getfield 32, 3) := by decide +kernel
theorem dX10_drop_96 : decode cX10_drop 96 = .ok (.iload_n 3, 1) := by decide +kernel
theorem dX10_drop_97 : decode cX10_drop 97 = .ok (.aload 5, 2) := by decide +kernel
theorem dX10_drop_99 : decode cX10_drop 99 = .ok (.invokevirtual 238, 3) := by decide +kernel
theorem dX10_drop_102 : decode cX10_drop 102 = .ok (.aload_n 0, 1) := by decide +kernel
theorem dX10_drop_103 : decode cX10_drop 103 = .ok (.getfield 32, 3) := by decide +kernel
theorem dX10_drop_106 : decode cX10_drop 106 = .ok (.getfield 99, 3) := by decide +kernel
theorem dX10_drop_109 : decode cX10_drop 109 = .ok (.ireturn, 1) := by decide +kernel
theorem dX10_turned_0 : decode cX10_turned 0 = .ok (.aload_n 0, 1) := by decide +kernel
theorem dX10_turned_1 : decode cX10_turned 1 = .ok (.getfield 32, 3) := by decide +kernel
theorem dX10_turned_4 : decode cX10_turned 4 = .ok (.iload_n 1, 1) := by decide +kernel
theorem dX10_turned_5 : decode cX10_turned 5 = .ok (.invokevirtual 111, 3) := by decide +kernel
theorem dX10_turned_8 : decode cX10_turned 8 = .ok (.astore_n 3, 1) := by decide +kernel
theorem dX10_turned_9 : decode cX10_turned 9 = .ok (.aload_n 0, 1) := by decide +kernel
theorem dX10_turned_10 : decode cX10_turned 10 = .ok (.getfield 32, 3) := by decide +kernel
theorem dX10_turned_13 : decode cX10_turned 13 = .ok (.iload_n 2, 1) := by decide +kernel
theorem dX10_turned_14 : decode cX10_turned 14 = .ok (.invokevirtual 111, 3) := by decide +kernel
theorem dX10_turned_17 : decode cX10_turned 17 = .ok (.astore 4, 2) := by decide +kernel
theorem dX10_turned_19 : decode cX10_turned 19 = .ok (.aload_n 3, 1) := by decide +kernel
theorem dX10_turned_20 : decode cX10_turned 20 = .ok (.ifnull 20, 3) := by decide +kernel
theorem dX10_turned_23 : decode cX10_turned 23 = .ok (.aload 4, 2) := by decide +kernel
theorem dX10_turned_25 : decode cX10_turned 25 = .ok (.ifnull 15, 3) := by decide +kernel
theorem dX10_turned_28 : decode cX10_turned 28 = .ok (.aload_n 3, 1) := by decide +kernel
theorem dX10_turned_29 : decode cX10_turned 29 = .ok (.getfield 115, 3) := by decide +kernel
theorem dX10_turned_32 : decode cX10_turned 32 = .ok (.aload 4, 2) := by decide +kernel
theorem dX10_turned_34 : decode cX10_turned 34 = .ok (.getfield 115, 3) := by decide +kernel
theorem dX10_turned_37 : decode cX10_turned 37 = .ok (.if_icmp .eq 5, 3) := by decide +kernel
theorem dX10_turned_40 : decode cX10_turned 40 = .ok (.iconst (-1), 1) := by decide +kernel
theorem dX10_turned_41 : decode cX10_turned 41 = .ok (.ireturn, 1) := by decide +kernel
theorem dX10_turned_42 : decode cX10_turned 42 = .ok (.iconst 0, 1) := by decide +kernel
theorem dX10_turned_43 : decode cX10_turned 43 = .ok (.istore 5, 2) := by decide +kernel
theorem dX10_turned_45 : decode cX10_turned 45 = .ok (.iload 5, 2) := by decide +kernel
theorem dX10_turned_47 : decode cX10_turned 47 = .ok (.aload_n 3, 1) := by decide +kernel
theorem dX10_turned_48 : decode cX10_turned 48 = .ok (.getfield 115, 3) := by decide +kernel
theorem dX10_turned_51 : decode cX10_turned 51 = .ok (.if_icmp .ge 23, 3) := by decide +kernel
theorem dX10_turned_54 : decode cX10_turned 54 = .ok (.aload_n 3, 1) := by decide +kernel
theorem dX10_turned_55 : decode cX10_turned 55 = .ok (.aload 4, 2) := by decide +kernel
theorem dX10_turned_57 : decode cX10_turned 57 = .ok (.iload 5, 2) := by decide +kernel
theorem dX10_turned_59 : decode cX10_turned 59 = .ok (.invokevirtual 241, 3) := by decide +kernel
theorem dX10_turned_62 : decode cX10_turned 62 = .ok (.ifCond .eq 6, 3) := by decide +kernel
theorem dX10_turned_65 : decode cX10_turned 65 = .ok (.iload 5, 2) := by decide +kernel
theorem dX10_turned_67 : decode cX10_turned 67 = .ok (.ireturn, 1) := by decide +kernel
theorem dX10_turned_68 : decode cX10_turned 68 = .ok (.iinc 5 1, 3) := by decide +kernel
theorem dX10_turned_71 : decode cX10_turned 71 = .ok (.goto (-26), 3) := by decide +kernel
theorem dX10_turned_74 : decode cX10_turned 74 = .ok (.iconst (-1), 1) := by decide +kernel
theorem dX10_turned_75 : decode cX10_turned 75 = .ok (.ireturn, 1) := by decide +kernel
theorem dX10_about_0 : decode cX10_about 0 = .ok (.iload_n 1, 1) := by decide +kernel
theorem dX10_about_1 : decode cX10_about 1 = .ok (.tableswitch 84 0 5 #[39, 44, 52, 60, 68, 76], 39) := by decide +kernel
theorem dX10_about_40 : decode cX10_about 40 = .ok (.aload_n 0, 1) := by decide +kernel
theorem dX10_about_41 : decode cX10_about 41 = .ok (.getfield 18, 3) := by decide +kernel
theorem dX10_about_44 : decode cX10_about 44 = .ok (.ireturn, 1) := by decide +kernel
theorem dX10_about_45 : decode cX10_about 45 = .ok (.aload_n 0, 1) := by decide +kernel
theorem dX10_about_46 : decode cX10_about 46 = .ok (.getfield 32, 3) := by decide +kernel
theorem dX10_about_49 : decode cX10_about 49 = .ok (.getfield 99, 3) := by decide +kernel
theorem dX10_about_52 : decode cX10_about 52 = .ok (.ireturn, 1) := by decide +kernel
theorem dX10_about_53 : decode cX10_about 53 = .ok (.aload_n 0, 1) := by decide +kernel
theorem dX10_about_54 : decode cX10_about 54 = .ok (.getfield 32, 3) := by decide +kernel
theorem dX10_about_57 : decode cX10_about 57 = .ok (.getfield 108, 3) := by decide +kernel
theorem dX10_about_60 : decode cX10_about 60 = .ok (.ireturn, 1) := by decide +kernel
theorem dX10_about_61 : decode cX10_about 61 = .ok (.aload_n 0, 1) := by decide +kernel
theorem dX10_about_62 : decode cX10_about 62 = .ok (.getfield 25, 3) := by decide +kernel
theorem dX10_about_65 : decode cX10_about 65 = .ok (.getfield 86, 3) := by decide +kernel
theorem dX10_about_68 : decode cX10_about 68 = .ok (.ireturn, 1) := by decide +kernel
theorem dX10_about_69 : decode cX10_about 69 = .ok (.aload_n 0, 1) := by decide +kernel
theorem dX10_about_70 : decode cX10_about 70 = .ok (.getfield 67, 3) := by decide +kernel
theorem dX10_about_73 : decode cX10_about 73 = .ok (.getfield 200, 3) := by decide +kernel
theorem dX10_about_76 : decode cX10_about 76 = .ok (.ireturn, 1) := by decide +kernel
theorem dX10_about_77 : decode cX10_about 77 = .ok (.aload_n 0, 1) := by decide +kernel
theorem dX10_about_78 : decode cX10_about 78 = .ok (.getfield 32, 3) := by decide +kernel
theorem dX10_about_81 : decode cX10_about 81 = .ok (.invokevirtual 245, 3) := by decide +kernel
theorem dX10_about_84 : decode cX10_about 84 = .ok (.ireturn, 1) := by decide +kernel
theorem dX10_about_85 : decode cX10_about 85 = .ok (.iconst (-1), 1) := by decide +kernel
theorem dX10_about_86 : decode cX10_about 86 = .ok (.ireturn, 1) := by decide +kernel
theorem dX10_isPlainAndGood_0 : decode cX10_isPlainAndGood 0 = .ok (.aload_n 1, 1) := by decide +kernel
theorem dX10_isPlainAndGood_1 : decode cX10_isPlainAndGood 1 = .ok (.ifnull 26, 3) := by decide +kernel
theorem dX10_isPlainAndGood_4 : decode cX10_isPlainAndGood 4 = .ok (.aload_n 1, 1) := by decide +kernel
theorem dX10_isPlainAndGood_5 : decode cX10_isPlainAndGood 5 = .ok (.invokevirtual 146, 3) := by decide +kernel
theorem dX10_isPlainAndGood_8 : decode cX10_isPlainAndGood 8 = .ok (.ifCond .eq 19, 3) := by decide +kernel
theorem dX10_isPlainAndGood_11 : decode cX10_isPlainAndGood 11 = .ok (.aload_n 0, 1) := by decide +kernel
theorem dX10_isPlainAndGood_12 : decode cX10_isPlainAndGood 12 = .ok (.getfield 53, 3) := by decide +kernel
theorem dX10_isPlainAndGood_15 : decode cX10_isPlainAndGood 15 = .ok (.aload_n 1, 1) := by decide +kernel
theorem dX10_isPlainAndGood_16 : decode cX10_isPlainAndGood 16 = .ok (.invokevirtual 132, 3) := by decide +kernel
theorem dX10_isPlainAndGood_19 : decode cX10_isPlainAndGood 19 = .ok (.iconst (-1), 1) := by decide +kernel
theorem dX10_isPlainAndGood_20 : decode cX10_isPlainAndGood 20 = .ok (.if_icmp .ne 7, 3) := by decide +kernel
theorem dX10_isPlainAndGood_23 : decode cX10_isPlainAndGood 23 = .ok (.iconst 1, 1) := by decide +kernel
theorem dX10_isPlainAndGood_24 : decode cX10_isPlainAndGood 24 = .ok (.goto 4, 3) := by decide +kernel
theorem dX10_isPlainAndGood_27 : decode cX10_isPlainAndGood 27 = .ok (.iconst 0, 1) := by decide +kernel
theorem dX10_isPlainAndGood_28 : decode cX10_isPlainAndGood 28 = .ok (.ireturn, 1) := by decide +kernel
set_option maxRecDepth 20000 in
theorem ggX10_feed_X7_hasRoom : GoodIn wsX10_feed wsX7_hasRoom := goodIn_r _ [6, 7, 8, 21, 22] (by decide +kernel) (by decide +kernel)
set_option maxRecDepth 20000 in
theorem gX10_feed_X7_hasRoom : GoodIn wsX10_feed (wsV RX10 78 RX7 yX7_hasRoom wsX7_hasRoom) := goodIn_app (goodIn_of _ (by decide +kernel)) ggX10_feed_X7_hasRoom
set_option maxRecDepth 20000 in
theorem ggX10_feed_X7_take : GoodIn wsX10_feed wsX7_take := goodIn_r _ [12, 7, 8, 21, 22] (by decide +kernel) (by decide +kernel)
set_option maxRecDepth 20000 in
theorem gX10_feed_X7_take : GoodIn wsX10_feed (wsV RX10 82 RX7 yX7_take wsX7_take) := goodIn_app (goodIn_of _ (by decide +kernel)) ggX10_feed_X7_take
set_option maxRecDepth 20000 in
theorem ggX10_beats_X0_rowSeen : GoodIn wsX10_beats wsX0_rowSeen := goodIn_r _ [6, 7, 8, 9, 10, 5, 11, 12, 25, 26, 27, 28] (by decide +kernel) (by decide +kernel)
set_option maxRecDepth 20000 in
theorem gX10_beats_X0_rowSeen : GoodIn wsX10_beats (wsV RX10 111 RX0 yX0_rowSeen wsX0_rowSeen) := goodIn_app (goodIn_of _ (by decide +kernel)) ggX10_beats_X0_rowSeen
set_option maxRecDepth 20000 in
theorem ggX10_thrown_X0_rowSeen : GoodIn wsX10_thrown wsX0_rowSeen := goodIn_r _ [6, 7, 8, 9, 10, 5, 11, 12, 42, 43, 44, 45] (by decide +kernel) (by decide +kernel)
set_option maxRecDepth 20000 in
theorem gX10_thrown_X0_rowSeen : GoodIn wsX10_thrown (wsV RX10 111 RX0 yX0_rowSeen wsX0_rowSeen) := goodIn_app (goodIn_of _ (by decide +kernel)) ggX10_thrown_X0_rowSeen
set_option maxRecDepth 20000 in
theorem ggX10_thrown_X5_cellAt : GoodIn wsX10_thrown wsX5_cellAt := goodIn_r _ [17, 18, 19, 20, 46, 47, 48, 49] (by decide +kernel) (by decide +kernel)
set_option maxRecDepth 20000 in
theorem gX10_thrown_X5_cellAt : GoodIn wsX10_thrown (wsV RX10 118 RX5 yX5_cellAt wsX5_cellAt) := goodIn_app (goodIn_of _ (by decide +kernel)) ggX10_thrown_X5_cellAt
set_option maxRecDepth 20000 in
theorem ggX10_thrown_X5_height : GoodIn wsX10_thrown wsX5_height := goodIn_r _ [24, 25, 46, 47, 48, 49] (by decide +kernel) (by decide +kernel)
set_option maxRecDepth 20000 in
theorem gX10_thrown_X5_height : GoodIn wsX10_thrown (wsV RX10 122 RX5 yX5_height wsX5_height) := goodIn_app (goodIn_of _ (by decide +kernel)) ggX10_thrown_X5_height
set_option maxRecDepth 20000 in
theorem ggX10_thrown_X5_isThrow : GoodIn wsX10_thrown wsX5_isThrow := goodIn_r _ [29, 25, 46, 47, 48, 49] (by decide +kernel) (by decide +kernel)
set_option maxRecDepth 20000 in
theorem gX10_thrown_X5_isThrow : GoodIn wsX10_thrown (wsV RX10 126 RX5 yX5_isThrow wsX5_isThrow) := goodIn_app (goodIn_of _ (by decide +kernel)) ggX10_thrown_X5_isThrow
set_option maxRecDepth 20000 in
theorem ggX10_thrown_X5_target : GoodIn wsX10_thrown wsX5_target := goodIn_r _ [33, 25, 46, 47, 48, 49] (by decide +kernel) (by decide +kernel)
set_option maxRecDepth 20000 in
theorem gX10_thrown_X5_target : GoodIn wsX10_thrown (wsV RX10 129 RX5 yX5_target wsX5_target) := goodIn_app (goodIn_of _ (by decide +kernel)) ggX10_thrown_X5_target
set_option maxRecDepth 20000 in
theorem ggX10_good_X0_rowSeen : GoodIn wsX10_good wsX0_rowSeen := goodIn_r _ [7, 8, 9, 10, 11, 6, 12, 13, 91, 92, 93, 94] (by decide +kernel) (by decide +kernel)
set_option maxRecDepth 20000 in
theorem gX10_good_X0_rowSeen : GoodIn wsX10_good (wsV RX10 111 RX0 yX0_rowSeen wsX0_rowSeen) := goodIn_app (goodIn_of _ (by decide +kernel)) ggX10_good_X0_rowSeen
set_option maxRecDepth 20000 in
theorem ggX10_good_X1_badPlace : GoodIn wsX10_good wsX1_badPlace := goodIn_r _ [18, 19, 20, 21, 22, 23, 24, 25, 26, 27, 28, 29, 30, 31, 32, 33, 34, 35, 36, 37, 38, 39, 40, 41, 42, 43, 44, 45, 46, 47, 48, 49, 50, 51, 52, 53, 54, 55, 56, 57, 58, 59, 60, 61, 62, 63, 64, 95, 96, 97, 98, 99, 100, 101, 102, 103, 104, 105, 106] (by decide +kernel) (by decide +kernel)
set_option maxRecDepth 20000 in
theorem gX10_good_X1_badPlace : GoodIn wsX10_good (wsV RX10 132 RX1 yX1_badPlace wsX1_badPlace) := goodIn_app (goodIn_of _ (by decide +kernel)) ggX10_good_X1_badPlace
set_option maxRecDepth 20000 in
theorem ggX10_good_X5_beatOf : GoodIn wsX10_good wsX5_beatOf := goodIn_r _ [48, 34, 103, 104, 105, 106] (by decide +kernel) (by decide +kernel)
set_option maxRecDepth 20000 in
theorem gX10_good_X5_beatOf : GoodIn wsX10_good (wsV RX10 136 RX5 yX5_beatOf wsX5_beatOf) := goodIn_app (goodIn_of _ (by decide +kernel)) ggX10_good_X5_beatOf
set_option maxRecDepth 20000 in
theorem ggX10_good_X5_jugglerOf : GoodIn wsX10_good wsX5_jugglerOf := goodIn_r _ [69, 34, 103, 104, 105, 106] (by decide +kernel) (by decide +kernel)
set_option maxRecDepth 20000 in
theorem gX10_good_X5_jugglerOf : GoodIn wsX10_good (wsV RX10 139 RX5 yX5_jugglerOf wsX5_jugglerOf) := goodIn_app (goodIn_of _ (by decide +kernel)) ggX10_good_X5_jugglerOf
set_option maxRecDepth 20000 in
theorem ggX10_good_X5_balls : GoodIn wsX10_good wsX5_balls := goodIn_r _ [73, 74, 29, 30, 31, 32, 33, 34, 49, 50, 51, 52, 39, 75, 76, 77, 78, 103, 104, 105, 106] (by decide +kernel) (by decide +kernel)
set_option maxRecDepth 20000 in
theorem gX10_good_X5_balls : GoodIn wsX10_good (wsV RX10 142 RX5 yX5_balls wsX5_balls) := goodIn_app (goodIn_of _ (by decide +kernel)) ggX10_good_X5_balls
set_option maxRecDepth 20000 in
theorem ggX10_good_X5_isPlain : GoodIn wsX10_good wsX5_isPlain := goodIn_r _ [82, 44, 33, 39, 34, 103, 104, 105, 106] (by decide +kernel) (by decide +kernel)
set_option maxRecDepth 20000 in
theorem gX10_good_X5_isPlain : GoodIn wsX10_good (wsV RX10 146 RX5 yX5_isPlain wsX5_isPlain) := goodIn_app (goodIn_of _ (by decide +kernel)) ggX10_good_X5_isPlain
set_option maxRecDepth 20000 in
theorem ggX10_cycles_X0_rowSeen : GoodIn wsX10_cycles wsX0_rowSeen := goodIn_r _ [7, 8, 9, 10, 11, 6, 12, 13, 105, 106, 107, 108] (by decide +kernel) (by decide +kernel)
set_option maxRecDepth 20000 in
theorem gX10_cycles_X0_rowSeen : GoodIn wsX10_cycles (wsV RX10 111 RX0 yX0_rowSeen wsX0_rowSeen) := goodIn_app (goodIn_of _ (by decide +kernel)) ggX10_cycles_X0_rowSeen
set_option maxRecDepth 100000 in
set_option maxHeartbeats 4000000 in
theorem ggX10_cycles_X1_lead : GoodIn wsX10_cycles wsX1_lead := goodIn_r _ [18, 19, 20, 21, 22, 23, 24, 25, 17, 26, 27, 28, 29, 30, 31, 32, 33, 34, 35, 36, 37, 38, 39, 40, 41, 42, 43, 44, 45, 46, 47, 48, 49, 50, 51, 52, 53, 54, 55, 56, 57, 58, 59, 60, 61, 62, 63, 64, 65, 66, 67, 68, 69, 70, 71, 72, 73, 74, 75, 76, 77, 78, 79, 80, 81, 82, 83, 84, 85, 86, 87, 88, 97, 98, 99, 100, 101, 102, 103, 104, 109, 110, 111, 112] (by with_unfolding_all rfl) (by decide +kernel)
set_option maxRecDepth 20000 in
theorem gX10_cycles_X1_lead : GoodIn wsX10_cycles (wsV RX10 149 RX1 yX1_lead wsX1_lead) := goodIn_app (goodIn_of _ (by decide +kernel)) ggX10_cycles_X1_lead
set_option maxRecDepth 20000 in
theorem ggX10_cycle_X0_rowSeen : GoodIn wsX10_cycle wsX0_rowSeen := goodIn_r _ [7, 8, 9, 10, 11, 6, 12, 13, 118, 119, 120, 121] (by decide +kernel) (by decide +kernel)
set_option maxRecDepth 20000 in
theorem gX10_cycle_X0_rowSeen : GoodIn wsX10_cycle (wsV RX10 111 RX0 yX0_rowSeen wsX0_rowSeen) := goodIn_app (goodIn_of _ (by decide +kernel)) ggX10_cycle_X0_rowSeen
set_option maxRecDepth 100000 in
set_option maxHeartbeats 4000000 in
theorem ggX10_cycle_X1_lead : GoodIn wsX10_cycle wsX1_lead := goodIn_r _ [18, 19, 20, 21, 22, 23, 24, 25, 17, 26, 27, 28, 29, 30, 31, 32, 33, 34, 35, 36, 37, 38, 39, 40, 41, 42, 43, 44, 45, 46, 47, 48, 49, 50, 51, 52, 53, 54, 55, 56, 57, 58, 59, 60, 61, 62, 63, 64, 65, 66, 67, 68, 69, 70, 71, 72, 73, 74, 75, 76, 77, 78, 79, 80, 81, 82, 83, 84, 85, 86, 87, 88, 110, 111, 112, 113, 114, 115, 116, 117, 122, 123, 124, 125] (by with_unfolding_all rfl) (by decide +kernel)
set_option maxRecDepth 20000 in
theorem gX10_cycle_X1_lead : GoodIn wsX10_cycle (wsV RX10 149 RX1 yX1_lead wsX1_lead) := goodIn_app (goodIn_of _ (by decide +kernel)) ggX10_cycle_X1_lead
set_option maxRecDepth 20000 in
theorem ggX10_cycle_X5_perRound : GoodIn wsX10_cycle wsX5_perRound := goodIn_r _ [92, 41, 122, 123, 124, 125] (by decide +kernel) (by decide +kernel)
set_option maxRecDepth 20000 in
theorem gX10_cycle_X5_perRound : GoodIn wsX10_cycle (wsV RX10 166 RX5 yX5_perRound wsX5_perRound) := goodIn_app (goodIn_of _ (by decide +kernel)) ggX10_cycle_X5_perRound
set_option maxRecDepth 20000 in
theorem ggX10_cycle_X5_beatOf : GoodIn wsX10_cycle wsX5_beatOf := goodIn_r _ [56, 42, 122, 123, 124, 125] (by decide +kernel) (by decide +kernel)
set_option maxRecDepth 20000 in
theorem gX10_cycle_X5_beatOf : GoodIn wsX10_cycle (wsV RX10 136 RX5 yX5_beatOf wsX5_beatOf) := goodIn_app (goodIn_of _ (by decide +kernel)) ggX10_cycle_X5_beatOf
set_option maxRecDepth 20000 in
theorem ggX10_cycle_X5_jugglerOf : GoodIn wsX10_cycle wsX5_jugglerOf := goodIn_r _ [97, 42, 122, 123, 124, 125] (by decide +kernel) (by decide +kernel)
set_option maxRecDepth 20000 in
theorem gX10_cycle_X5_jugglerOf : GoodIn wsX10_cycle (wsV RX10 139 RX5 yX5_jugglerOf wsX5_jugglerOf) := goodIn_app (goodIn_of _ (by decide +kernel)) ggX10_cycle_X5_jugglerOf
set_option maxRecDepth 20000 in
theorem ggX10_cycle_X5_numberOf : GoodIn wsX10_cycle wsX5_numberOf := goodIn_r _ [101] (by decide +kernel) (by decide +kernel)
set_option maxRecDepth 20000 in
theorem gX10_cycle_X5_numberOf : GoodIn wsX10_cycle (wsV RX10 169 RX5 yX5_numberOf wsX5_numberOf) := goodIn_app (goodIn_of _ (by decide +kernel)) ggX10_cycle_X5_numberOf
set_option maxRecDepth 20000 in
theorem ggX10_cycleOf_X0_rowSeen : GoodIn wsX10_cycleOf wsX0_rowSeen := goodIn_r _ [7, 8, 9, 10, 11, 6, 12, 13, 109, 110, 111, 112] (by decide +kernel) (by decide +kernel)
set_option maxRecDepth 20000 in
theorem gX10_cycleOf_X0_rowSeen : GoodIn wsX10_cycleOf (wsV RX10 111 RX0 yX0_rowSeen wsX0_rowSeen) := goodIn_app (goodIn_of _ (by decide +kernel)) ggX10_cycleOf_X0_rowSeen
set_option maxRecDepth 100000 in
set_option maxHeartbeats 4000000 in
theorem ggX10_cycleOf_X1_lead : GoodIn wsX10_cycleOf wsX1_lead := goodIn_r _ [18, 19, 20, 21, 22, 23, 24, 25, 17, 26, 27, 28, 29, 30, 31, 32, 33, 34, 35, 36, 37, 38, 39, 40, 41, 42, 43, 44, 45, 46, 47, 48, 49, 50, 51, 52, 53, 54, 55, 56, 57, 58, 59, 60, 61, 62, 63, 64, 65, 66, 67, 68, 69, 70, 71, 72, 73, 74, 75, 76, 77, 78, 79, 80, 81, 82, 83, 84, 85, 86, 87, 88, 101, 102, 103, 104, 105, 106, 107, 108, 113, 114, 115, 116] (by with_unfolding_all rfl) (by decide +kernel)
set_option maxRecDepth 20000 in
theorem gX10_cycleOf_X1_lead : GoodIn wsX10_cycleOf (wsV RX10 149 RX1 yX1_lead wsX1_lead) := goodIn_app (goodIn_of _ (by decide +kernel)) ggX10_cycleOf_X1_lead
set_option maxRecDepth 20000 in
theorem ggX10_cycleOf_X5_cellAt : GoodIn wsX10_cycleOf wsX5_cellAt := goodIn_r _ [92, 41, 52, 42, 113, 114, 115, 116] (by decide +kernel) (by decide +kernel)
set_option maxRecDepth 20000 in
theorem gX10_cycleOf_X5_cellAt : GoodIn wsX10_cycleOf (wsV RX10 118 RX5 yX5_cellAt wsX5_cellAt) := goodIn_app (goodIn_of _ (by decide +kernel)) ggX10_cycleOf_X5_cellAt
set_option maxRecDepth 20000 in
theorem ggX10_caught_X0_rowSeen : GoodIn wsX10_caught wsX0_rowSeen := goodIn_r _ [7, 8, 9, 10, 11, 6, 12, 13, 129, 130, 131, 132] (by decide +kernel) (by decide +kernel)
set_option maxRecDepth 20000 in
theorem gX10_caught_X0_rowSeen : GoodIn wsX10_caught (wsV RX10 111 RX0 yX0_rowSeen wsX0_rowSeen) := goodIn_app (goodIn_of _ (by decide +kernel)) ggX10_caught_X0_rowSeen
set_option maxRecDepth 100000 in
set_option maxHeartbeats 4000000 in
theorem ggX10_caught_X1_lead : GoodIn wsX10_caught wsX1_lead := goodIn_r _ [18, 19, 20, 21, 22, 23, 24, 25, 17, 26, 27, 28, 29, 30, 31, 32, 33, 34, 35, 36, 37, 38, 39, 40, 41, 42, 43, 44, 45, 46, 47, 48, 49, 50, 51, 52, 53, 54, 55, 56, 57, 58, 59, 60, 61, 62, 63, 64, 65, 66, 67, 68, 69, 70, 71, 72, 73, 74, 75, 76, 77, 78, 79, 80, 81, 82, 83, 84, 85, 86, 87, 88, 121, 122, 123, 124, 125, 126, 127, 128, 133, 134, 135, 136] (by with_unfolding_all rfl) (by decide +kernel)
set_option maxRecDepth 20000 in
theorem gX10_caught_X1_lead : GoodIn wsX10_caught (wsV RX10 149 RX1 yX1_lead wsX1_lead) := goodIn_app (goodIn_of _ (by decide +kernel)) ggX10_caught_X1_lead
set_option maxRecDepth 20000 in
theorem ggX10_caught_X5_beatInRound : GoodIn wsX10_caught wsX5_beatInRound := goodIn_r _ [64, 41, 65, 66, 67, 68, 133, 134, 135, 136] (by decide +kernel) (by decide +kernel)
set_option maxRecDepth 20000 in
theorem gX10_caught_X5_beatInRound : GoodIn wsX10_caught (wsV RX10 175 RX5 yX5_beatInRound wsX5_beatInRound) := goodIn_app (goodIn_of _ (by decide +kernel)) ggX10_caught_X5_beatInRound
set_option maxRecDepth 20000 in
theorem ggX10_caught_X5_cellAt : GoodIn wsX10_caught wsX5_cellAt := goodIn_r _ [93, 41, 52, 42, 133, 134, 135, 136] (by decide +kernel) (by decide +kernel)
set_option maxRecDepth 20000 in
theorem gX10_caught_X5_cellAt : GoodIn wsX10_caught (wsV RX10 118 RX5 yX5_cellAt wsX5_cellAt) := goodIn_app (goodIn_of _ (by decide +kernel)) ggX10_caught_X5_cellAt
set_option maxRecDepth 20000 in
theorem ggX10_caught_X5_isThrow : GoodIn wsX10_caught wsX5_isThrow := goodIn_r _ [46, 47, 133, 134, 135, 136] (by decide +kernel) (by decide +kernel)
set_option maxRecDepth 20000 in
theorem gX10_caught_X5_isThrow : GoodIn wsX10_caught (wsV RX10 126 RX5 yX5_isThrow wsX5_isThrow) := goodIn_app (goodIn_of _ (by decide +kernel)) ggX10_caught_X5_isThrow
set_option maxRecDepth 20000 in
theorem ggX10_caught_X1_ballOf : GoodIn wsX10_caught wsX1_ballOf := goodIn_r _ [98, 20, 19, 99, 100, 101, 17, 102, 43, 44, 45, 39, 46, 47, 81, 58, 59, 60, 103, 62, 63, 64, 41, 65, 66, 67, 68, 121, 122, 123, 124, 125, 126, 127, 128, 133, 134, 135, 136] (by decide +kernel) (by decide +kernel)
set_option maxRecDepth 20000 in
theorem gX10_caught_X1_ballOf : GoodIn wsX10_caught (wsV RX10 178 RX1 yX1_ballOf wsX1_ballOf) := goodIn_app (goodIn_of _ (by decide +kernel)) ggX10_caught_X1_ballOf
set_option maxRecDepth 20000 in
theorem ggX10_caught_X5_height : GoodIn wsX10_caught wsX5_height := goodIn_r _ [60, 47, 133, 134, 135, 136] (by decide +kernel) (by decide +kernel)
set_option maxRecDepth 20000 in
theorem gX10_caught_X5_height : GoodIn wsX10_caught (wsV RX10 122 RX5 yX5_height wsX5_height) := goodIn_app (goodIn_of _ (by decide +kernel)) ggX10_caught_X5_height
set_option maxRecDepth 20000 in
theorem ggX10_caught_X5_jugglerOf : GoodIn wsX10_caught wsX5_jugglerOf := goodIn_r _ [108, 42, 133, 134, 135, 136] (by decide +kernel) (by decide +kernel)
set_option maxRecDepth 20000 in
theorem gX10_caught_X5_jugglerOf : GoodIn wsX10_caught (wsV RX10 139 RX5 yX5_jugglerOf wsX5_jugglerOf) := goodIn_app (goodIn_of _ (by decide +kernel)) ggX10_caught_X5_jugglerOf
set_option maxRecDepth 20000 in
theorem ggX10_caught_X5_numberOf : GoodIn wsX10_caught wsX5_numberOf := goodIn_r _ [112] (by decide +kernel) (by decide +kernel)
set_option maxRecDepth 20000 in
theorem gX10_caught_X5_numberOf : GoodIn wsX10_caught (wsV RX10 169 RX5 yX5_numberOf wsX5_numberOf) := goodIn_app (goodIn_of _ (by decide +kernel)) ggX10_caught_X5_numberOf
set_option maxRecDepth 20000 in
theorem ggX10_state_X0_rowSeen : GoodIn wsX10_state wsX0_rowSeen := goodIn_r _ [6, 7, 8, 9, 10, 5, 11, 12, 96, 97, 98, 99] (by decide +kernel) (by decide +kernel)
set_option maxRecDepth 20000 in
theorem gX10_state_X0_rowSeen : GoodIn wsX10_state (wsV RX10 111 RX0 yX0_rowSeen wsX0_rowSeen) := goodIn_app (goodIn_of _ (by decide +kernel)) ggX10_state_X0_rowSeen
set_option maxRecDepth 100000 in
set_option maxHeartbeats 4000000 in
theorem ggX10_state_X10_isPlainAndGood : GoodIn wsX10_state wsX10_isPlainAndGood := goodIn_r _ [17, 18, 19, 20, 21, 22, 23, 24, 25, 26, 27, 28, 29, 30, 31, 32, 33, 34, 35, 36, 37, 38, 39, 40, 41, 42, 43, 44, 45, 46, 47, 48, 49, 50, 51, 52, 53, 54, 55, 56, 57, 58, 59, 60, 61, 62, 63, 64, 65, 66, 67, 68, 69, 70, 71, 72, 73, 84, 85, 86, 87, 88, 89, 90, 91, 92, 93, 94, 95, 100, 101, 102, 103, 104, 105, 106, 107] (by with_unfolding_all rfl) (by decide +kernel)
set_option maxRecDepth 20000 in
theorem gX10_state_X10_isPlainAndGood : GoodIn wsX10_state (wsV RX10 184 RX10 yX10_isPlainAndGood wsX10_isPlainAndGood) := goodIn_app (goodIn_of _ (by decide +kernel)) ggX10_state_X10_isPlainAndGood
set_option maxRecDepth 20000 in
theorem ggX10_state_X9_stateOf : GoodIn wsX10_state wsX9_stateOf := goodIn_r _ [77, 78, 63, 64, 22, 65, 25, 66, 67, 68, 69, 79, 80, 81, 82, 24, 27, 83, 59, 60, 61, 26, 92, 93, 94, 95] (by decide +kernel) (by decide +kernel)
set_option maxRecDepth 20000 in
theorem gX10_state_X9_stateOf : GoodIn wsX10_state (va_wsS RX10 187 yX9_stateOf wsX9_stateOf) := goodIn_app (goodIn_of _ (by decide +kernel)) ggX10_state_X9_stateOf
set_option maxRecDepth 20000 in
theorem ggX10_add_X0_rowSeen : GoodIn wsX10_add wsX0_rowSeen := goodIn_r _ [8, 9, 10, 11, 12, 7, 13, 14, 152, 153, 154, 155] (by decide +kernel) (by decide +kernel)
set_option maxRecDepth 20000 in
theorem gX10_add_X0_rowSeen : GoodIn wsX10_add (wsV RX10 111 RX0 yX0_rowSeen wsX0_rowSeen) := goodIn_app (goodIn_of _ (by decide +kernel)) ggX10_add_X0_rowSeen
set_option maxRecDepth 100000 in
set_option maxHeartbeats 4000000 in
theorem ggX10_add_X10_isPlainAndGood : GoodIn wsX10_add wsX10_isPlainAndGood := goodIn_r _ [19, 20, 21, 22, 23, 24, 25, 26, 27, 28, 29, 30, 31, 32, 33, 34, 35, 36, 37, 38, 39, 40, 41, 42, 43, 44, 45, 46, 47, 48, 49, 50, 51, 52, 53, 54, 55, 56, 57, 58, 59, 60, 61, 62, 63, 64, 65, 66, 67, 68, 69, 70, 71, 72, 73, 74, 75, 132, 133, 134, 135, 136, 137, 138, 139, 144, 145, 146, 147, 156, 157, 158, 159, 160, 161, 162, 163] (by with_unfolding_all rfl) (by decide +kernel)
set_option maxRecDepth 20000 in
theorem gX10_add_X10_isPlainAndGood : GoodIn wsX10_add (wsV RX10 184 RX10 yX10_isPlainAndGood wsX10_isPlainAndGood) := goodIn_app (goodIn_of _ (by decide +kernel)) ggX10_add_X10_isPlainAndGood
set_option maxRecDepth 20000 in
theorem ggX10_add_X9_stateOf : GoodIn wsX10_add wsX9_stateOf := goodIn_r _ [79, 80, 65, 66, 24, 67, 27, 68, 69, 70, 71, 81, 82, 83, 84, 26, 29, 85, 61, 62, 63, 28, 144, 145, 146, 147] (by decide +kernel) (by decide +kernel)
set_option maxRecDepth 20000 in
theorem gX10_add_X9_stateOf : GoodIn wsX10_add (va_wsS RX10 187 yX9_stateOf wsX9_stateOf) := goodIn_app (goodIn_of _ (by decide +kernel)) ggX10_add_X9_stateOf
set_option maxRecDepth 20000 in
theorem ggX10_add_X9_find : GoodIn wsX10_add wsX9_find := goodIn_r _ [89, 90, 91, 92, 93, 94, 95, 96, 97, 98, 99, 100, 78, 101, 102, 103, 104, 41, 42, 43, 105, 106, 107, 108, 109, 110, 111, 112, 148, 149, 150, 151] (by decide +kernel) (by decide +kernel)
set_option maxRecDepth 20000 in
theorem gX10_add_X9_find : GoodIn wsX10_add (wsV RX10 191 RX9 yX9_find wsX9_find) := goodIn_app (goodIn_of _ (by decide +kernel)) ggX10_add_X9_find
set_option maxRecDepth 20000 in
theorem ggX10_add_X6_hasRoom : GoodIn wsX10_add wsX6_hasRoom := goodIn_r _ [117, 118, 140, 141, 142, 143] (by decide +kernel) (by decide +kernel)
set_option maxRecDepth 20000 in
theorem gX10_add_X6_hasRoom : GoodIn wsX10_add (wsV RX10 204 RX6 yX6_hasRoom wsX6_hasRoom) := goodIn_app (goodIn_of _ (by decide +kernel)) ggX10_add_X6_hasRoom
set_option maxRecDepth 20000 in
theorem ggX10_add_X6_write : GoodIn wsX10_add wsX6_write := goodIn_r _ [122, 118, 123, 124, 140, 141, 142, 143] (by decide +kernel) (by decide +kernel)
set_option maxRecDepth 20000 in
theorem gX10_add_X6_write : GoodIn wsX10_add (wsV RX10 205 RX6 yX6_write wsX6_write) := goodIn_app (goodIn_of _ (by decide +kernel)) ggX10_add_X6_write
set_option maxRecDepth 20000 in
theorem ggX10_add_X6_writeRow : GoodIn wsX10_add wsX6_writeRow := goodIn_r _ [128, 129, 82, 83, 24, 84, 27, 26, 29, 130, 61, 62, 63, 28, 131, 120, 121, 116, 122, 118, 123, 124, 144, 145, 146, 147, 140, 141, 142, 143] (by decide +kernel) (by decide +kernel)
set_option maxRecDepth 20000 in
theorem gX10_add_X6_writeRow : GoodIn wsX10_add (wsV RX10 209 RX6 yX6_writeRow wsX6_writeRow) := goodIn_app (goodIn_of _ (by decide +kernel)) ggX10_add_X6_writeRow
set_option maxRecDepth 20000 in
theorem ggX10_seen_X0_marksSeen : GoodIn wsX10_seen wsX0_marksSeen := goodIn_r _ [6, 7, 8, 19, 20, 21, 22] (by decide +kernel) (by decide +kernel)
set_option maxRecDepth 20000 in
theorem gX10_seen_X0_marksSeen : GoodIn wsX10_seen (wsV RX10 217 RX0 yX0_marksSeen wsX0_marksSeen) := goodIn_app (goodIn_of _ (by decide +kernel)) ggX10_seen_X0_marksSeen
set_option maxRecDepth 20000 in
theorem ggX10_whole_X0_marksSeen : GoodIn wsX10_whole wsX0_marksSeen := goodIn_r _ [7, 8, 9, 62, 63, 64, 65] (by decide +kernel) (by decide +kernel)
set_option maxRecDepth 20000 in
theorem gX10_whole_X0_marksSeen : GoodIn wsX10_whole (wsV RX10 217 RX0 yX0_marksSeen wsX0_marksSeen) := goodIn_app (goodIn_of _ (by decide +kernel)) ggX10_whole_X0_marksSeen
set_option maxRecDepth 20000 in
theorem ggX10_whole_X2_fill : GoodIn wsX10_whole wsX2_fill := goodIn_r _ [14, 15, 16, 17, 18, 19, 20, 21, 22, 23, 24, 25, 13, 26, 27, 28, 29, 30, 31, 32, 33, 34, 35, 36, 37, 38, 39, 40, 41, 42, 43, 44, 45, 46, 47, 48, 49, 58, 59, 60, 61] (by decide +kernel) (by decide +kernel)
set_option maxRecDepth 20000 in
theorem gX10_whole_X2_fill : GoodIn wsX10_whole (wsV RX10 225 RX2 yX2_fill wsX2_fill) := goodIn_app (goodIn_of _ (by decide +kernel)) ggX10_whole_X2_fill
set_option maxRecDepth 20000 in
theorem ggX10_drop_X0_rowSeen : GoodIn wsX10_drop wsX0_rowSeen := goodIn_r _ [7, 8, 9, 10, 11, 6, 12, 13, 152, 153, 154, 155] (by decide +kernel) (by decide +kernel)
set_option maxRecDepth 20000 in
theorem gX10_drop_X0_rowSeen : GoodIn wsX10_drop (wsV RX10 111 RX0 yX0_rowSeen wsX0_rowSeen) := goodIn_app (goodIn_of _ (by decide +kernel)) ggX10_drop_X0_rowSeen
set_option maxRecDepth 20000 in
theorem ggX10_drop_X0_isFull : GoodIn wsX10_drop wsX0_isFull := goodIn_r _ [17, 18, 152, 153, 154, 155] (by decide +kernel) (by decide +kernel)
set_option maxRecDepth 20000 in
theorem gX10_drop_X0_isFull : GoodIn wsX10_drop (wsV RX10 89 RX0 yX0_isFull wsX0_isFull) := goodIn_app (goodIn_of _ (by decide +kernel)) ggX10_drop_X0_isFull
set_option maxRecDepth 100000 in
set_option maxHeartbeats 4000000 in
theorem ggX10_drop_X1_lead : GoodIn wsX10_drop wsX1_lead := goodIn_r _ [23, 24, 25, 26, 27, 28, 29, 30, 22, 31, 32, 33, 34, 35, 36, 37, 38, 39, 40, 41, 42, 43, 44, 45, 46, 47, 48, 49, 50, 51, 52, 53, 54, 55, 56, 57, 58, 59, 60, 61, 62, 63, 64, 65, 66, 67, 68, 69, 70, 71, 72, 73, 74, 75, 76, 77, 78, 79, 80, 81, 82, 83, 84, 85, 86, 87, 88, 89, 90, 91, 92, 93, 144, 145, 146, 147, 148, 149, 150, 151, 156, 157, 158, 159] (by with_unfolding_all rfl) (by decide +kernel)
set_option maxRecDepth 20000 in
theorem gX10_drop_X1_lead : GoodIn wsX10_drop (wsV RX10 149 RX1 yX1_lead wsX1_lead) := goodIn_app (goodIn_of _ (by decide +kernel)) ggX10_drop_X1_lead
set_option maxRecDepth 100000 in
set_option maxHeartbeats 4000000 in
theorem ggX10_drop_X1_without : GoodIn wsX10_drop wsX1_without := goodIn_r _ [97, 98, 99, 44, 24, 26, 100, 101, 102, 103, 104, 105, 106, 107, 35, 108, 57, 47, 109, 52, 110, 111, 112, 113, 114, 34, 36, 46, 115, 38, 39, 40, 41, 42, 43, 45, 116, 59, 60, 61, 117, 118, 119, 120, 86, 63, 64, 65, 121, 75, 76, 77, 122, 123, 124, 125, 156, 157, 158, 159, 144, 145, 146, 147, 148, 149, 150, 151] (by with_unfolding_all rfl) (by decide +kernel)
set_option maxRecDepth 20000 in
theorem gX10_drop_X1_without : GoodIn wsX10_drop (wsV RX10 232 RX1 yX1_without wsX1_without) := goodIn_app (goodIn_of _ (by decide +kernel)) ggX10_drop_X1_without
set_option maxRecDepth 20000 in
theorem ggX10_drop_X0_turnPage : GoodIn wsX10_drop wsX0_turnPage := goodIn_r _ [129, 13, 18, 130, 8, 131, 15, 16, 6, 17, 152, 153, 154, 155] (by decide +kernel) (by decide +kernel)
set_option maxRecDepth 20000 in
theorem gX10_drop_X0_turnPage : GoodIn wsX10_drop (wsV RX10 235 RX0 yX0_turnPage wsX0_turnPage) := goodIn_app (goodIn_of _ (by decide +kernel)) ggX10_drop_X0_turnPage
set_option maxRecDepth 20000 in
theorem ggX10_drop_X0_writeRow : GoodIn wsX10_drop wsX0_writeRow := goodIn_r _ [135, 13, 18, 152, 153, 154, 155] (by decide +kernel) (by decide +kernel)
set_option maxRecDepth 20000 in
theorem gX10_drop_X0_writeRow : GoodIn wsX10_drop (wsV RX10 238 RX0 yX0_writeRow wsX0_writeRow) := goodIn_app (goodIn_of _ (by decide +kernel)) ggX10_drop_X0_writeRow
set_option maxRecDepth 20000 in
theorem ggX10_turned_X0_rowSeen : GoodIn wsX10_turned wsX0_rowSeen := goodIn_r _ [6, 7, 8, 9, 10, 5, 11, 12, 53, 54, 55, 56] (by decide +kernel) (by decide +kernel)
set_option maxRecDepth 20000 in
theorem gX10_turned_X0_rowSeen : GoodIn wsX10_turned (wsV RX10 111 RX0 yX0_rowSeen wsX0_rowSeen) := goodIn_app (goodIn_of _ (by decide +kernel)) ggX10_turned_X0_rowSeen
set_option maxRecDepth 20000 in
theorem ggX10_turned_X5_isTurned : GoodIn wsX10_turned wsX5_isTurned := goodIn_r _ [17, 18, 19, 20, 21, 16, 22, 23, 24, 25, 26, 27, 28, 29, 30, 31, 32, 33, 34, 35, 36, 37, 38, 39, 40, 49, 50, 51, 52] (by decide +kernel) (by decide +kernel)
set_option maxRecDepth 20000 in
theorem gX10_turned_X5_isTurned : GoodIn wsX10_turned (wsV RX10 241 RX5 yX5_isTurned wsX5_isTurned) := goodIn_app (goodIn_of _ (by decide +kernel)) ggX10_turned_X5_isTurned
set_option maxRecDepth 20000 in
theorem ggX10_about_X0_lettersSeen : GoodIn wsX10_about wsX0_lettersSeen := goodIn_r _ [9, 10, 11, 12, 8, 13, 14, 15, 16, 17, 18, 19, 28, 29, 30, 31] (by decide +kernel) (by decide +kernel)
set_option maxRecDepth 20000 in
theorem gX10_about_X0_lettersSeen : GoodIn wsX10_about (wsV RX10 245 RX0 yX0_lettersSeen wsX0_lettersSeen) := goodIn_app (goodIn_of _ (by decide +kernel)) ggX10_about_X0_lettersSeen
set_option maxRecDepth 20000 in
theorem ggX10_isPlainAndGood_X5_isPlain : GoodIn wsX10_isPlainAndGood wsX5_isPlain := goodIn_r _ [6, 7, 8, 9, 10, 65, 66, 67, 68] (by decide +kernel) (by decide +kernel)
set_option maxRecDepth 20000 in
theorem gX10_isPlainAndGood_X5_isPlain : GoodIn wsX10_isPlainAndGood (wsV RX10 146 RX5 yX5_isPlain wsX5_isPlain) := goodIn_app (goodIn_of _ (by decide +kernel)) ggX10_isPlainAndGood_X5_isPlain
set_option maxRecDepth 20000 in
theorem ggX10_isPlainAndGood_X1_badPlace : GoodIn wsX10_isPlainAndGood wsX1_badPlace := goodIn_r _ [15, 16, 17, 18, 19, 20, 21, 22, 23, 24, 25, 26, 27, 5, 28, 8, 10, 29, 30, 31, 32, 9, 33, 34, 35, 36, 7, 37, 38, 39, 40, 41, 42, 43, 44, 45, 46, 47, 48, 49, 50, 51, 52, 53, 54, 55, 56, 69, 70, 71, 72, 73, 74, 75, 76, 65, 66, 67, 68] (by decide +kernel) (by decide +kernel)
set_option maxRecDepth 20000 in
theorem gX10_isPlainAndGood_X1_badPlace : GoodIn wsX10_isPlainAndGood (wsV RX10 132 RX1 yX1_badPlace wsX1_badPlace) := goodIn_app (goodIn_of _ (by decide +kernel)) ggX10_isPlainAndGood_X1_badPlace
set_option maxRecDepth 100000 in
set_option maxHeartbeats 4000000 in
theorem t_X10_feed (l : Launch) (D : va_G) (cI cR cM : ClassId) (sz : Nat) {jn : Nat} {g : Nat → Nat} {L : List Nat} {S : Sg} {f : Nat → va_E} {a b x d y : Int32}  (hj : 1 ≤ jn ∧ jn ≤ 3) (hG : SG g L S) (hI : IN jn cI cR cM g L S f)  : Met l yX10_feed wsX10_feed ({ frames := 1, cells := 0, slots := 0, locals := 22 }) (P0 D cI cR cM [.ref (g 10), .int a, .int b, .int x, .int d, .int y] sz (va_pl L f)) (QG (S := Int32 × (Nat → va_E)) (fun u => some (.int u.1)) (fun u => va_pl L u.2) (fun u => IN jn cI cR cM g L S u.2 ∧ FR S [11, 30] f u.2) D (va_A (va_pl L f) sz)) 0 0 (va_A (va_pl L f) sz) := by
  refine go (cc := cX10_feed) (maxL := 6) (ret := (some .int)) (by decide +kernel) rfl (Nat.le_of_ble_eq_true rfl) ?_
  intro p e s m below meth c ls args Q hQ hsz hx hb hr hml hts hown hlocks hnm hP hK hD hl
  subst hsz
  have hD := hD.self (sz := s.heap.size)
  generalize hAe : va_A (va_pl L f) s.heap.size = A at hD hQ
  have hA : ∀ q, s.heap.size ≤ q → A q := fun q h => by rw [← hAe]; exact Or.inr h
  have hS : va_S A s.heap s.heap [] := va_S.rf
  have hF : FR S [11, 30] f f := FR_rf
  have hl : lv_has ls 6 [(0, .ref (g 10)), (1, .int a), (2, .int b), (3, .int x), (4, .int d), (5, .int y)] := hl
  refine lv_aload_n hx hb dX10_feed_0 rfl (lv_at hl 0 rfl) ?_
  have fg_1 := op_10 hI (gm_10 hG) (gs_10 hG)
  refine t_get (D := D) (L := L) (f := f) (ci := 10) (v := .ref (g 11)) (C := RX10) (T := TX10) (N := 8) hx hb hts (by decide +kernel) hown hK.1 hP (gm_10 hG) fg_1 rfl 1 (by decide) (hts (.fieldLink RX10 25 "JugglingHall" "tape" "LJugglingHall$Tape;") (by decide +kernel)) (fun _ h9 => h9) rfl dX10_feed_1 ?_
  refine lv_bipush (v := 20) hx hb dX10_feed_4 (by decide) ?_
  have hz_2 : (20 : Int32).toInt = 20 := by decide
  obtain ⟨len_3, fg_3, iv0_3, iv1_3⟩ := op_11 hI (gm_11 hG) (gs_11 hG)
  refine roP (va_runV (As := [.int 20]) (rest := []) ⟨hx, hb, hml, hown, hts⟩ (t_X7_hasRoom l D cI cR cM _  hj hG hI  (by first | assumption | omega)) (cwV 1 hts gX10_feed_X7_hasRoom rfl rfl rfl (by decide +kernel) ⟨Nat.le_of_ble_eq_true rfl, Nat.le_of_ble_eq_true rfl⟩) (pre_T hK hP hD (gm_11 hG) fg_3 rfl) rfl rfl hl.1 rfl (lv_room (Nat.le_of_ble_eq_true rfl)) dX10_feed_6 ⟨Nat.le_of_ble_eq_true rfl, Nat.le_of_ble_eq_true rfl⟩) hS hA hP (fun r_4 H locs hw hP hS => ?_)
  have h01_4 : (r_4.toInt = 0 ∨ r_4.toInt = 1) := hw
  refine a_if_ne (u := r_4.toInt) (tgt := 14) hx hb dX10_feed_9 (by decide) (rfl) (fun c_5 => ?_) (fun c_5 => ?_)
  · refine lv_aload_n hx hb dX10_feed_14 rfl (lv_at hl 0 rfl) ?_
    refine t_get (D := D) (L := L) (f := f) (ci := 10) (v := .ref (g 11)) (C := RX10) (T := TX10) (N := 8) hx hb hts (by decide +kernel) hown hK.1 hP (gm_10 hG) fg_1 rfl 1 (by decide) (hts (.fieldLink RX10 25 "JugglingHall" "tape" "LJugglingHall$Tape;") (by decide +kernel)) (fun _ h9 => h9) rfl dX10_feed_15 ?_
    refine lv_iload_n hx hb dX10_feed_18 rfl (lv_at hl 1 rfl) ?_
    refine call_p (va_runV (As := [.int a]) (rest := []) ⟨hx, hb, hml, hown, hts⟩ (t_X7_take l D cI cR cM _  hj hG hI  ) (cwV 1 hts gX10_feed_X7_take rfl rfl rfl (by decide +kernel) ⟨Nat.le_of_ble_eq_true rfl, Nat.le_of_ble_eq_true rfl⟩) (pre_T hK hP hD (gm_11 hG) fg_3 rfl) rfl rfl hl.1 rfl (lv_room (Nat.le_of_ble_eq_true rfl)) dX10_feed_19 ⟨Nat.le_of_ble_eq_true rfl, Nat.le_of_ble_eq_true rfl⟩) hD hS hA (fun u_6 H locs hw hP hD hS => ?_)
    obtain ⟨f_6, e0_6⟩ : ∃ x, x = u_6 := ⟨_, rfl⟩
    subst e0_6
    obtain ⟨hI, hF_6⟩ : IN jn cI cR cM g L S f_6 ∧ FR S [11, 30] f f_6 := hw
    have hP : va_P D vwCl (va_pl L f_6) H := hP
    have hD : va_D A (va_pl L f_6) := hD
    have hF := FR_tr hF hF_6 (by decide)
    have fb_7 : f_6 (g 10) = .inr (10, [.int (nI jn), .ref (g 11), .ref (g 12), .ref (g 13), .ref (g 15), .ref (g 16), .ref (g 17), .ref (g 18)]) := FR_at hF_6 (gs_10 hG) (show (10 : Nat) ∉ ([11, 30] : List Nat) by decide) fg_1
    refine lv_aload_n hx hb dX10_feed_22 rfl (lv_at hl 0 rfl) ?_
    refine t_get (D := D) (L := L) (f := f_6) (ci := 10) (v := .ref (g 11)) (C := RX10) (T := TX10) (N := 8) hx hb hts (by decide +kernel) hown hK.1 hP (gm_10 hG) fb_7 rfl 1 (by decide) (hts (.fieldLink RX10 25 "JugglingHall" "tape" "LJugglingHall$Tape;") (by decide +kernel)) (fun _ h9 => h9) rfl dX10_feed_23 ?_
    refine lv_iload_n hx hb dX10_feed_26 rfl (lv_at hl 2 rfl) ?_
    obtain ⟨len_8, fg_8, iv0_8, iv1_8⟩ := op_11 hI (gm_11 hG) (gs_11 hG)
    refine call_p (va_runV (As := [.int b]) (rest := []) ⟨hx, hb, hml, hown, hts⟩ (t_X7_take l D cI cR cM _  hj hG hI  ) (cwV 1 hts gX10_feed_X7_take rfl rfl rfl (by decide +kernel) ⟨Nat.le_of_ble_eq_true rfl, Nat.le_of_ble_eq_true rfl⟩) (pre_T hK hP hD (gm_11 hG) fg_8 rfl) rfl rfl hl.1 rfl (lv_room (Nat.le_of_ble_eq_true rfl)) dX10_feed_27 ⟨Nat.le_of_ble_eq_true rfl, Nat.le_of_ble_eq_true rfl⟩) hD hS hA (fun u_9 H locs hw hP hD hS => ?_)
    obtain ⟨f_9, e0_9⟩ : ∃ x, x = u_9 := ⟨_, rfl⟩
    subst e0_9
    obtain ⟨hI, hF_9⟩ : IN jn cI cR cM g L S f_9 ∧ FR S [11, 30] f_6 f_9 := hw
    have hP : va_P D vwCl (va_pl L f_9) H := hP
    have hD : va_D A (va_pl L f_9) := hD
    have hF := FR_tr hF hF_9 (by decide)
    have fb_10 : f_9 (g 10) = .inr (10, [.int (nI jn), .ref (g 11), .ref (g 12), .ref (g 13), .ref (g 15), .ref (g 16), .ref (g 17), .ref (g 18)]) := FR_at hF_9 (gs_10 hG) (show (10 : Nat) ∉ ([11, 30] : List Nat) by decide) fb_7
    refine lv_aload_n hx hb dX10_feed_30 rfl (lv_at hl 0 rfl) ?_
    refine t_get (D := D) (L := L) (f := f_9) (ci := 10) (v := .ref (g 11)) (C := RX10) (T := TX10) (N := 8) hx hb hts (by decide +kernel) hown hK.1 hP (gm_10 hG) fb_10 rfl 1 (by decide) (hts (.fieldLink RX10 25 "JugglingHall" "tape" "LJugglingHall$Tape;") (by decide +kernel)) (fun _ h9 => h9) rfl dX10_feed_31 ?_
    refine lv_iload_n hx hb dX10_feed_34 rfl (lv_at hl 3 rfl) ?_
    obtain ⟨len_11, fg_11, iv0_11, iv1_11⟩ := op_11 hI (gm_11 hG) (gs_11 hG)
    refine call_p (va_runV (As := [.int x]) (rest := []) ⟨hx, hb, hml, hown, hts⟩ (t_X7_take l D cI cR cM _  hj hG hI  ) (cwV 1 hts gX10_feed_X7_take rfl rfl rfl (by decide +kernel) ⟨Nat.le_of_ble_eq_true rfl, Nat.le_of_ble_eq_true rfl⟩) (pre_T hK hP hD (gm_11 hG) fg_11 rfl) rfl rfl hl.1 rfl (lv_room (Nat.le_of_ble_eq_true rfl)) dX10_feed_35 ⟨Nat.le_of_ble_eq_true rfl, Nat.le_of_ble_eq_true rfl⟩) hD hS hA (fun u_12 H locs hw hP hD hS => ?_)
    obtain ⟨f_12, e0_12⟩ : ∃ x, x = u_12 := ⟨_, rfl⟩
    subst e0_12
    obtain ⟨hI, hF_12⟩ : IN jn cI cR cM g L S f_12 ∧ FR S [11, 30] f_9 f_12 := hw
    have hP : va_P D vwCl (va_pl L f_12) H := hP
    have hD : va_D A (va_pl L f_12) := hD
    have hF := FR_tr hF hF_12 (by decide)
    have fb_13 : f_12 (g 10) = .inr (10, [.int (nI jn), .ref (g 11), .ref (g 12), .ref (g 13), .ref (g 15), .ref (g 16), .ref (g 17), .ref (g 18)]) := FR_at hF_12 (gs_10 hG) (show (10 : Nat) ∉ ([11, 30] : List Nat) by decide) fb_10
    refine lv_aload_n hx hb dX10_feed_38 rfl (lv_at hl 0 rfl) ?_
    refine t_get (D := D) (L := L) (f := f_12) (ci := 10) (v := .ref (g 11)) (C := RX10) (T := TX10) (N := 8) hx hb hts (by decide +kernel) hown hK.1 hP (gm_10 hG) fb_13 rfl 1 (by decide) (hts (.fieldLink RX10 25 "JugglingHall" "tape" "LJugglingHall$Tape;") (by decide +kernel)) (fun _ h9 => h9) rfl dX10_feed_39 ?_
    refine lv_iload hx hb dX10_feed_42 (lv_at hl 4 rfl) ?_
    obtain ⟨len_14, fg_14, iv0_14, iv1_14⟩ := op_11 hI (gm_11 hG) (gs_11 hG)
    refine call_p (va_runV (As := [.int d]) (rest := []) ⟨hx, hb, hml, hown, hts⟩ (t_X7_take l D cI cR cM _  hj hG hI  ) (cwV 1 hts gX10_feed_X7_take rfl rfl rfl (by decide +kernel) ⟨Nat.le_of_ble_eq_true rfl, Nat.le_of_ble_eq_true rfl⟩) (pre_T hK hP hD (gm_11 hG) fg_14 rfl) rfl rfl hl.1 rfl (lv_room (Nat.le_of_ble_eq_true rfl)) dX10_feed_44 ⟨Nat.le_of_ble_eq_true rfl, Nat.le_of_ble_eq_true rfl⟩) hD hS hA (fun u_15 H locs hw hP hD hS => ?_)
    obtain ⟨f_15, e0_15⟩ : ∃ x, x = u_15 := ⟨_, rfl⟩
    subst e0_15
    obtain ⟨hI, hF_15⟩ : IN jn cI cR cM g L S f_15 ∧ FR S [11, 30] f_12 f_15 := hw
    have hP : va_P D vwCl (va_pl L f_15) H := hP
    have hD : va_D A (va_pl L f_15) := hD
    have hF := FR_tr hF hF_15 (by decide)
    have fb_16 : f_15 (g 10) = .inr (10, [.int (nI jn), .ref (g 11), .ref (g 12), .ref (g 13), .ref (g 15), .ref (g 16), .ref (g 17), .ref (g 18)]) := FR_at hF_15 (gs_10 hG) (show (10 : Nat) ∉ ([11, 30] : List Nat) by decide) fb_13
    refine lv_aload_n hx hb dX10_feed_47 rfl (lv_at hl 0 rfl) ?_
    refine t_get (D := D) (L := L) (f := f_15) (ci := 10) (v := .ref (g 11)) (C := RX10) (T := TX10) (N := 8) hx hb hts (by decide +kernel) hown hK.1 hP (gm_10 hG) fb_16 rfl 1 (by decide) (hts (.fieldLink RX10 25 "JugglingHall" "tape" "LJugglingHall$Tape;") (by decide +kernel)) (fun _ h9 => h9) rfl dX10_feed_48 ?_
    refine lv_iload hx hb dX10_feed_51 (lv_at hl 5 rfl) ?_
    obtain ⟨len_17, fg_17, iv0_17, iv1_17⟩ := op_11 hI (gm_11 hG) (gs_11 hG)
    refine call_p (va_runV (As := [.int y]) (rest := []) ⟨hx, hb, hml, hown, hts⟩ (t_X7_take l D cI cR cM _  hj hG hI  ) (cwV 1 hts gX10_feed_X7_take rfl rfl rfl (by decide +kernel) ⟨Nat.le_of_ble_eq_true rfl, Nat.le_of_ble_eq_true rfl⟩) (pre_T hK hP hD (gm_11 hG) fg_17 rfl) rfl rfl hl.1 rfl (lv_room (Nat.le_of_ble_eq_true rfl)) dX10_feed_53 ⟨Nat.le_of_ble_eq_true rfl, Nat.le_of_ble_eq_true rfl⟩) hD hS hA (fun u_18 H locs hw hP hD hS => ?_)
    obtain ⟨f_18, e0_18⟩ : ∃ x, x = u_18 := ⟨_, rfl⟩
    subst e0_18
    obtain ⟨hI, hF_18⟩ : IN jn cI cR cM g L S f_18 ∧ FR S [11, 30] f_15 f_18 := hw
    have hP : va_P D vwCl (va_pl L f_18) H := hP
    have hD : va_D A (va_pl L f_18) := hD
    have hF := FR_tr hF hF_18 (by decide)
    have fb_19 : f_18 (g 10) = .inr (10, [.int (nI jn), .ref (g 11), .ref (g 12), .ref (g 13), .ref (g 15), .ref (g 16), .ref (g 17), .ref (g 18)]) := FR_at hF_18 (gs_10 hG) (show (10 : Nat) ∉ ([11, 30] : List Nat) by decide) fb_16
    refine lv_aload_n hx hb dX10_feed_56 rfl (lv_at hl 0 rfl) ?_
    refine t_get (D := D) (L := L) (f := f_18) (ci := 10) (v := .ref (g 11)) (C := RX10) (T := TX10) (N := 8) hx hb hts (by decide +kernel) hown hK.1 hP (gm_10 hG) fb_19 rfl 1 (by decide) (hts (.fieldLink RX10 25 "JugglingHall" "tape" "LJugglingHall$Tape;") (by decide +kernel)) (fun _ h9 => h9) rfl dX10_feed_57 ?_
    obtain ⟨len_20, fg_20, iv0_20, iv1_20⟩ := op_11 hI (gm_11 hG) (gs_11 hG)
    refine t_getN (D := D) (L := L) (f := f_18) (ci := 7) (v := .int len_20) (C := RX7) (T := TX7) (N := 2) (host := "JugglingHall") hx hb hts (by decide +kernel) hown hK.1 hP (gm_11 hG) fg_20 rfl 1 (by decide) (hK.nw (.fieldLinkNest RX10 86 "JugglingHall$Tape" "length" "I" "JugglingHall") (by decide +kernel) rfl) (fun _ h9 => h9) rfl dX10_feed_60 ?_
    exact g_iret (len_20, f_18) hx hb hr hlocks hS rfl (⟨hI, hF⟩) hP hD hQ (Nat.le_of_ble_eq_true rfl) (Nat.le_of_ble_eq_true rfl) dX10_feed_63
  · refine lv_iconst (v := (-1)) hx hb dX10_feed_12 (by decide) ?_
    have hz_21 : (-1 : Int32).toInt = (-1) := by decide
    exact g_iret ((-1 : Int32), f) hx hb hr hlocks hS rfl (⟨hI, hF⟩) hP hD hQ (Nat.le_of_ble_eq_true rfl) (Nat.le_of_ble_eq_true rfl) dX10_feed_13
set_option maxRecDepth 100000 in
set_option maxHeartbeats 4000000 in
theorem t_X10_end (l : Launch) (D : va_G) (cI cR cM : ClassId) (sz : Nat) {jn : Nat} {g : Nat → Nat} {L : List Nat} {S : Sg} {f : Nat → va_E} {x : Int32}  (hj : 1 ≤ jn ∧ jn ≤ 3) (hG : SG g L S) (hI : IN jn cI cR cM g L S f)  : Met l yX10_end wsX10_end ({ frames := 0, cells := 0, slots := 0, locals := 0 }) (P0 D cI cR cM [.ref (g 10), .int x] sz (va_pl L f)) (QG (S := Int32 × (Nat → va_E)) (fun u => some (.int u.1)) (fun u => va_pl L u.2) (fun u => IN jn cI cR cM g L S u.2 ∧ FR S [11] f u.2) D (va_A (va_pl L f) sz)) 0 0 (va_A (va_pl L f) sz) := by
  refine go (cc := cX10_end) (maxL := 2) (ret := (some .int)) (by decide +kernel) rfl (Nat.le_of_ble_eq_true rfl) ?_
  intro p e s m below meth c ls args Q hQ hsz hx hb hr hml hts hown hlocks hnm hP hK hD hl
  subst hsz
  have hD := hD.self (sz := s.heap.size)
  generalize hAe : va_A (va_pl L f) s.heap.size = A at hD hQ
  have hA : ∀ q, s.heap.size ≤ q → A q := fun q h => by rw [← hAe]; exact Or.inr h
  have hS : va_S A s.heap s.heap [] := va_S.rf
  have hF : FR S [11] f f := FR_rf
  have hl : lv_has ls 2 [(0, .ref (g 10)), (1, .int x)] := hl
  refine lv_iload_n hx hb dX10_end_0 rfl (lv_at hl 1 rfl) ?_
  refine a_if_lt (u := x.toInt) (tgt := 15) hx hb dX10_end_1 (by decide) (rfl) (fun c_1 => ?_) (fun c_1 => ?_)
  · refine lv_iconst (v := (-1)) hx hb dX10_end_15 (by decide) ?_
    have hz_2 : (-1 : Int32).toInt = (-1) := by decide
    exact g_iret ((-1 : Int32), f) hx hb hr hlocks hS rfl (⟨hI, hF⟩) hP hD hQ (Nat.le_of_ble_eq_true rfl) (Nat.le_of_ble_eq_true rfl) dX10_end_16
  · refine lv_iload_n hx hb dX10_end_4 rfl (lv_at hl 1 rfl) ?_
    refine lv_aload_n hx hb dX10_end_5 rfl (lv_at hl 0 rfl) ?_
    have fg_3 := op_10 hI (gm_10 hG) (gs_10 hG)
    refine t_get (D := D) (L := L) (f := f) (ci := 10) (v := .ref (g 11)) (C := RX10) (T := TX10) (N := 8) hx hb hts (by decide +kernel) hown hK.1 hP (gm_10 hG) fg_3 rfl 1 (by decide) (hts (.fieldLink RX10 25 "JugglingHall" "tape" "LJugglingHall$Tape;") (by decide +kernel)) (fun _ h9 => h9) rfl dX10_end_6 ?_
    obtain ⟨len_4, fg_4, iv0_4, iv1_4⟩ := op_11 hI (gm_11 hG) (gs_11 hG)
    refine t_getN (D := D) (L := L) (f := f) (ci := 7) (v := .int len_4) (C := RX7) (T := TX7) (N := 2) (host := "JugglingHall") hx hb hts (by decide +kernel) hown hK.1 hP (gm_11 hG) fg_4 rfl 1 (by decide) (hK.nw (.fieldLinkNest RX10 86 "JugglingHall$Tape" "length" "I" "JugglingHall") (by decide +kernel) rfl) (fun _ h9 => h9) rfl dX10_end_9 ?_
    refine a_icmp_le (u := x.toInt) (v := len_4.toInt) (tgt := 17) hx hb dX10_end_12 (by decide) (rfl) (rfl) (fun c_5 => ?_) (fun c_5 => ?_)
    · refine lv_aload_n hx hb dX10_end_17 rfl (lv_at hl 0 rfl) ?_
      refine t_get (D := D) (L := L) (f := f) (ci := 10) (v := .ref (g 11)) (C := RX10) (T := TX10) (N := 8) hx hb hts (by decide +kernel) hown hK.1 hP (gm_10 hG) fg_3 rfl 1 (by decide) (hts (.fieldLink RX10 25 "JugglingHall" "tape" "LJugglingHall$Tape;") (by decide +kernel)) (fun _ h9 => h9) rfl dX10_end_18 ?_
      refine lv_iload_n hx hb dX10_end_21 rfl (lv_at hl 1 rfl) ?_
      refine t_putN (D := D) (L := L) (f := f) (ci := 7) (v := .int x) (ty := .int) (C := RX7) (T := TX7) (N := 2) (host := "JugglingHall") hx hb hts (by decide +kernel) tyX7 tyX7_ok nmX7 hown hK.1 hP hD hS (gm_11 hG) fg_4 rfl 1 (by decide) (hK.nw (.fieldLinkNest RX10 86 "JugglingHall$Tape" "length" "I" "JugglingHall") (by decide +kernel) rfl) (fun _ h9 => h9) rfl (by decide +kernel) rfl rfl (Nat.le_of_ble_eq_true rfl) dX10_end_22 (fun f_6 H locs e9_6 o_6 hP hD hS => ?_)
      have fa_6 : f_6 (g 11) = .inr (7, [.ref (g 30), .int x]) := e9_6
      have hI := IN_set (e := .inr (7, [.ref (g 30), .int x])) hI (gs_11 hG) (mk_11 (by first | assumption | omega) (by first | assumption | omega)) fa_6 o_6
      have hF := FR_set hF (gs_11 hG) (show (11 : Nat) ∈ ([11] : List Nat) by decide) o_6
      have fb_7 : f_6 (g 10) = .inr (10, [.int (nI jn), .ref (g 11), .ref (g 12), .ref (g 13), .ref (g 15), .ref (g 16), .ref (g 17), .ref (g 18)]) := f_at o_6 (S_ne (gs_10 hG) (gs_11 hG) (show (10 : Nat) ≠ 11 by decide)) fg_3
      refine lv_iload_n hx hb dX10_end_25 rfl (lv_at hl 1 rfl) ?_
      exact g_iret (x, f_6) hx hb hr hlocks hS rfl (⟨hI, hF⟩) hP hD hQ (Nat.le_of_ble_eq_true rfl) (Nat.le_of_ble_eq_true rfl) dX10_end_26
    · refine lv_iconst (v := (-1)) hx hb dX10_end_15 (by decide) ?_
      have hz_8 : (-1 : Int32).toInt = (-1) := by decide
      exact g_iret ((-1 : Int32), f) hx hb hr hlocks hS rfl (⟨hI, hF⟩) hP hD hQ (Nat.le_of_ble_eq_true rfl) (Nat.le_of_ble_eq_true rfl) dX10_end_16
set_option maxRecDepth 100000 in
set_option maxHeartbeats 4000000 in
theorem t_X10_fault (l : Launch) (D : va_G) (cI cR cM : ClassId) (sz : Nat) {jn : Nat} {g : Nat → Nat} {L : List Nat} {S : Sg} {f : Nat → va_E} {x : Int32}  (hj : 1 ≤ jn ∧ jn ≤ 3) (hG : SG g L S) (hI : IN jn cI cR cM g L S f)  : Met l yX10_fault wsX10_fault ({ frames := 0, cells := 0, slots := 0, locals := 0 }) (P0 D cI cR cM [.ref (g 10), .int x] sz (va_pl L f)) (QP (fun r => True) sz) 0 0 (va_A [] sz) := by
  refine go (cc := cX10_fault) (maxL := 2) (ret := (some .int)) (by decide +kernel) rfl (Nat.le_of_ble_eq_true rfl) ?_
  intro p e s m below meth c ls args Q hQ hsz hx hb hr hml hts hown hlocks hnm hP hK hD hl
  subst hsz
  have hS : va_S (va_A [] s.heap.size) s.heap s.heap [] := va_S.rf
  have hA : ∀ q, s.heap.size ≤ q → va_A [] s.heap.size q := fun q h => Or.inr h
  have hl : lv_has ls 2 [(0, .ref (g 10)), (1, .int x)] := hl
  refine lv_iload_n hx hb dX10_fault_0 rfl (lv_at hl 1 rfl) ?_
  refine a_if_ne (u := x.toInt) (tgt := 12) hx hb dX10_fault_1 (by decide) (rfl) (fun c_1 => ?_) (fun c_1 => ?_)
  · refine lv_iload_n hx hb dX10_fault_12 rfl (lv_at hl 1 rfl) ?_
    refine lv_iconst (v := 1) hx hb dX10_fault_13 (by decide) ?_
    refine a_icmp_ne (u := x.toInt) (v := 1) (tgt := 27) hx hb dX10_fault_14 (by decide) (rfl) (by decide) (fun c_2 => ?_) (fun c_2 => ?_)
    · refine lv_iconst (v := (-1)) hx hb dX10_fault_27 (by decide) ?_
      have hz_3 : (-1 : Int32).toInt = (-1) := by decide
      exact rp_iret hx hb hr hlocks hS (trivial) hQ dX10_fault_28
    · refine lv_aload_n hx hb dX10_fault_17 rfl (lv_at hl 0 rfl) ?_
      have fg_4 := op_10 hI (gm_10 hG) (gs_10 hG)
      refine t_get (D := D) (L := L) (f := f) (ci := 10) (v := .ref (g 13)) (C := RX10) (T := TX10) (N := 8) hx hb hts (by decide +kernel) hown hK.1 hP (gm_10 hG) fg_4 rfl 3 (by decide) (hts (.fieldLink RX10 46 "JugglingHall" "reader" "LJugglingHall$Reader;") (by decide +kernel)) (fun _ h9 => h9) rfl dX10_fault_18 ?_
      obtain ⟨fa_5, pl_5, fg_5⟩ := op_13 hI (gm_13 hG) (gs_13 hG)
      refine t_getN (D := D) (L := L) (f := f) (ci := 4) (v := .int pl_5) (C := RX4) (T := TX4) (N := 11) (host := "JugglingHall") hx hb hts (by decide +kernel) hown hK.1 hP (gm_13 hG) fg_5 rfl 10 (by decide) (hK.nw (.fieldLinkNest RX10 105 "JugglingHall$Reader" "place" "I" "JugglingHall") (by decide +kernel) rfl) (fun _ h9 => h9) rfl dX10_fault_21 ?_
      refine lv_goto (tgt := 28) hx hb dX10_fault_24 (by decide) ?_
      exact rp_iret hx hb hr hlocks hS (trivial) hQ dX10_fault_28
  · refine lv_aload_n hx hb dX10_fault_4 rfl (lv_at hl 0 rfl) ?_
    have fg_6 := op_10 hI (gm_10 hG) (gs_10 hG)
    refine t_get (D := D) (L := L) (f := f) (ci := 10) (v := .ref (g 13)) (C := RX10) (T := TX10) (N := 8) hx hb hts (by decide +kernel) hown hK.1 hP (gm_10 hG) fg_6 rfl 3 (by decide) (hts (.fieldLink RX10 46 "JugglingHall" "reader" "LJugglingHall$Reader;") (by decide +kernel)) (fun _ h9 => h9) rfl dX10_fault_5 ?_
    obtain ⟨fa_7, pl_7, fg_7⟩ := op_13 hI (gm_13 hG) (gs_13 hG)
    refine t_getN (D := D) (L := L) (f := f) (ci := 4) (v := .int fa_7) (C := RX4) (T := TX4) (N := 11) (host := "JugglingHall") hx hb hts (by decide +kernel) hown hK.1 hP (gm_13 hG) fg_7 rfl 9 (by decide) (hK.nw (.fieldLinkNest RX10 102 "JugglingHall$Reader" "fault" "I" "JugglingHall") (by decide +kernel) rfl) (fun _ h9 => h9) rfl dX10_fault_8 ?_
    exact rp_iret hx hb hr hlocks hS (trivial) hQ dX10_fault_11
set_option maxRecDepth 100000 in
set_option maxHeartbeats 4000000 in
theorem t_X10_look (l : Launch) (D : va_G) (cI cR cM : ClassId) (sz : Nat) {jn : Nat} {g : Nat → Nat} {L : List Nat} {S : Sg} {f : Nat → va_E} {x : Int32}  (hj : 1 ≤ jn ∧ jn ≤ 3) (hG : SG g L S) (hI : IN jn cI cR cM g L S f)  : Met l yX10_look wsX10_look ({ frames := 0, cells := 0, slots := 0, locals := 0 }) (P0 D cI cR cM [.ref (g 10), .int x] sz (va_pl L f)) (QG (S := Int32 × (Nat → va_E)) (fun u => some (.int u.1)) (fun u => va_pl L u.2) (fun u => IN jn cI cR cM g L S u.2 ∧ FR S [12] f u.2 ∧ (u.1.toInt = 0 ∨ u.1.toInt = 1)) D (va_A (va_pl L f) sz)) 0 0 (va_A (va_pl L f) sz) := by
  refine go (cc := cX10_look) (maxL := 2) (ret := (some .boolean)) (by decide +kernel) rfl (Nat.le_of_ble_eq_true rfl) ?_
  intro p e s m below meth c ls args Q hQ hsz hx hb hr hml hts hown hlocks hnm hP hK hD hl
  subst hsz
  have hD := hD.self (sz := s.heap.size)
  generalize hAe : va_A (va_pl L f) s.heap.size = A at hD hQ
  have hA : ∀ q, s.heap.size ≤ q → A q := fun q h => by rw [← hAe]; exact Or.inr h
  have hS : va_S A s.heap s.heap [] := va_S.rf
  have hF : FR S [12] f f := FR_rf
  have hl : lv_has ls 2 [(0, .ref (g 10)), (1, .int x)] := hl
  refine lv_iload_n hx hb dX10_look_0 rfl (lv_at hl 1 rfl) ?_
  refine a_if_lt (u := x.toInt) (tgt := 15) hx hb dX10_look_1 (by decide) (rfl) (fun c_1 => ?_) (fun c_1 => ?_)
  · refine lv_iconst (v := 0) hx hb dX10_look_15 (by decide) ?_
    have hz_2 : (0 : Int32).toInt = 0 := by decide
    exact g_zret ((0 : Int32), f) hx hb hr hlocks hS (by first | exact Or.inl rfl | exact Or.inr rfl) rfl (⟨hI, hF, show (0 : Int32).toInt = 0 ∨ (0 : Int32).toInt = 1 from (by first | assumption | omega)⟩) hP hD hQ (Nat.le_of_ble_eq_true rfl) (Nat.le_of_ble_eq_true rfl) dX10_look_16
  · refine lv_iload_n hx hb dX10_look_4 rfl (lv_at hl 1 rfl) ?_
    refine lv_aload_n hx hb dX10_look_5 rfl (lv_at hl 0 rfl) ?_
    have fg_3 := op_10 hI (gm_10 hG) (gs_10 hG)
    refine t_get (D := D) (L := L) (f := f) (ci := 10) (v := .ref (g 12)) (C := RX10) (T := TX10) (N := 8) hx hb hts (by decide +kernel) hown hK.1 hP (gm_10 hG) fg_3 rfl 2 (by decide) (hts (.fieldLink RX10 32 "JugglingHall" "book" "LJugglingHall$Book;") (by decide +kernel)) (fun _ h9 => h9) rfl dX10_look_6 ?_
    obtain ⟨tm_4, lk_4, fg_4, iv0_4, iv1_4, iv2_4⟩ := op_12 hI (gm_12 hG) (gs_12 hG)
    refine t_getN (D := D) (L := L) (f := f) (ci := 0) (v := .int tm_4) (C := RX0) (T := TX0) (N := 4) (host := "JugglingHall") hx hb hts (by decide +kernel) hown hK.1 hP (gm_12 hG) fg_4 rfl 2 (by decide) (hK.nw (.fieldLinkNest RX10 99 "JugglingHall$Book" "time" "I" "JugglingHall") (by decide +kernel) rfl) (fun _ h9 => h9) rfl dX10_look_9 ?_
    refine a_icmp_le (u := x.toInt) (v := tm_4.toInt) (tgt := 17) hx hb dX10_look_12 (by decide) (rfl) (rfl) (fun c_5 => ?_) (fun c_5 => ?_)
    · refine lv_aload_n hx hb dX10_look_17 rfl (lv_at hl 0 rfl) ?_
      refine t_get (D := D) (L := L) (f := f) (ci := 10) (v := .ref (g 12)) (C := RX10) (T := TX10) (N := 8) hx hb hts (by decide +kernel) hown hK.1 hP (gm_10 hG) fg_3 rfl 2 (by decide) (hts (.fieldLink RX10 32 "JugglingHall" "book" "LJugglingHall$Book;") (by decide +kernel)) (fun _ h9 => h9) rfl dX10_look_18 ?_
      refine lv_iload_n hx hb dX10_look_21 rfl (lv_at hl 1 rfl) ?_
      refine t_putN (D := D) (L := L) (f := f) (ci := 0) (v := .int x) (ty := .int) (C := RX0) (T := TX0) (N := 4) (host := "JugglingHall") hx hb hts (by decide +kernel) tyX0 tyX0_ok nmX0 hown hK.1 hP hD hS (gm_12 hG) fg_4 rfl 3 (by decide) (hK.nw (.fieldLinkNest RX10 108 "JugglingHall$Book" "lookTime" "I" "JugglingHall") (by decide +kernel) rfl) (fun _ h9 => h9) rfl (by decide +kernel) rfl rfl (Nat.le_of_ble_eq_true rfl) dX10_look_22 (fun f_6 H locs e9_6 o_6 hP hD hS => ?_)
      have fa_6 : f_6 (g 12) = .inr (0, [.ref (g 20), .ref (g 21), .int tm_4, .int x]) := e9_6
      have hI := IN_set (e := .inr (0, [.ref (g 20), .ref (g 21), .int tm_4, .int x])) hI (gs_12 hG) (mk_12 (by first | assumption | omega) (by first | assumption | omega) (by first | assumption | omega)) fa_6 o_6
      have hF := FR_set hF (gs_12 hG) (show (12 : Nat) ∈ ([12] : List Nat) by decide) o_6
      have fb_7 : f_6 (g 10) = .inr (10, [.int (nI jn), .ref (g 11), .ref (g 12), .ref (g 13), .ref (g 15), .ref (g 16), .ref (g 17), .ref (g 18)]) := f_at o_6 (S_ne (gs_10 hG) (gs_12 hG) (show (10 : Nat) ≠ 12 by decide)) fg_3
      refine lv_iconst (v := 1) hx hb dX10_look_25 (by decide) ?_
      have hz_8 : (1 : Int32).toInt = 1 := by decide
      exact g_zret ((1 : Int32), f_6) hx hb hr hlocks hS (by first | exact Or.inl rfl | exact Or.inr rfl) rfl (⟨hI, hF, show (1 : Int32).toInt = 0 ∨ (1 : Int32).toInt = 1 from (by first | assumption | omega)⟩) hP hD hQ (Nat.le_of_ble_eq_true rfl) (Nat.le_of_ble_eq_true rfl) dX10_look_26
    · refine lv_iconst (v := 0) hx hb dX10_look_15 (by decide) ?_
      have hz_9 : (0 : Int32).toInt = 0 := by decide
      exact g_zret ((0 : Int32), f) hx hb hr hlocks hS (by first | exact Or.inl rfl | exact Or.inr rfl) rfl (⟨hI, hF, show (0 : Int32).toInt = 0 ∨ (0 : Int32).toInt = 1 from (by first | assumption | omega)⟩) hP hD hQ (Nat.le_of_ble_eq_true rfl) (Nat.le_of_ble_eq_true rfl) dX10_look_16
set_option maxRecDepth 100000 in
set_option maxHeartbeats 4000000 in
theorem t_X10_beats (l : Launch) (D : va_G) (cI cR cM : ClassId) (sz : Nat) {jn : Nat} {g : Nat → Nat} {L : List Nat} {S : Sg} {f : Nat → va_E} {x : Int32}  (hj : 1 ≤ jn ∧ jn ≤ 3) (hG : SG g L S) (hI : IN jn cI cR cM g L S f)  : Met l yX10_beats wsX10_beats ({ frames := 2, cells := 0, slots := 0, locals := 43 }) (P0 D cI cR cM [.ref (g 10), .int x] sz (va_pl L f)) (QP (fun r => True) sz) 0 0 (va_A [] sz) := by
  refine go (cc := cX10_beats) (maxL := 3) (ret := (some .int)) (by decide +kernel) rfl (Nat.le_of_ble_eq_true rfl) ?_
  intro p e s m below meth c ls args Q hQ hsz hx hb hr hml hts hown hlocks hnm hP hK hD hl
  subst hsz
  have hS : va_S (va_A [] s.heap.size) s.heap s.heap [] := va_S.rf
  have hA : ∀ q, s.heap.size ≤ q → va_A [] s.heap.size q := fun q h => Or.inr h
  have hl : lv_has ls 3 [(0, .ref (g 10)), (1, .int x)] := hl
  refine lv_aload_n hx hb dX10_beats_0 rfl (lv_at hl 0 rfl) ?_
  have fg_1 := op_10 hI (gm_10 hG) (gs_10 hG)
  refine t_get (D := D) (L := L) (f := f) (ci := 10) (v := .ref (g 12)) (C := RX10) (T := TX10) (N := 8) hx hb hts (by decide +kernel) hown hK.1 hP (gm_10 hG) fg_1 rfl 2 (by decide) (hts (.fieldLink RX10 32 "JugglingHall" "book" "LJugglingHall$Book;") (by decide +kernel)) (fun _ h9 => h9) rfl dX10_beats_1 ?_
  refine lv_iload_n hx hb dX10_beats_4 rfl (lv_at hl 1 rfl) ?_
  obtain ⟨tm_2, lk_2, fg_2, iv0_2, iv1_2, iv2_2⟩ := op_12 hI (gm_12 hG) (gs_12 hG)
  refine roR (va_runV (As := [.int x]) (rest := []) ⟨hx, hb, hml, hown, hts⟩ (t_X0_rowSeen l D cI cR cM _  hj hG hI  ) (cwV 1 hts gX10_beats_X0_rowSeen rfl rfl rfl (by decide +kernel) ⟨Nat.le_of_ble_eq_true rfl, Nat.le_of_ble_eq_true rfl⟩) (pre_T hK hP hD (gm_12 hG) fg_2 rfl) rfl rfl hl.1 rfl (lv_room (Nat.le_of_ble_eq_true rfl)) dX10_beats_5 ⟨Nat.le_of_ble_eq_true rfl, Nat.le_of_ble_eq_true rfl⟩) hS hA hP (fun w_3 H locs hw hP hS => ?_)
  have ho_3 : (∀ z, w_3 = some z → ∃ p n, isRow L S z p n) := hw
  rcases x_opt w_3 with e_4 | ⟨r_4, e_4⟩
  · subst e_4
    refine W.eq (g2 := F0 m 8 ls [.null]) rfl ?_
    have hl : lv_has ls 3 [(0, .ref (g 10)), (1, .int x)] := hl
    refine lv_astore_nN (lv' := [(2, .null), (0, .ref (g 10)), (1, .int x)]) hx hb dX10_beats_8 rfl hl (by decide) rfl (fun ls hl => ?_)
    refine lv_aload_nN hx hb dX10_beats_9 rfl (lv_at hl 0 rfl) ?_
    refine lv_ifnonnullN hx hb dX10_beats_10 ?_
    refine lv_iconst (v := (-1)) hx hb dX10_beats_13 (by decide) ?_
    refine lv_goto (tgt := 21) hx hb dX10_beats_14 (by decide) ?_
    have hz_5 : (-1 : Int32).toInt = (-1) := by decide
    exact rp_iret hx hb hr hlocks hS (trivial) hQ dX10_beats_21
  · subst e_4
    refine W.eq (g2 := F0 m 8 ls [.ref r_4]) rfl ?_
    have hl : lv_has ls 3 [(0, .ref (g 10)), (1, .int x)] := hl
    obtain ⟨p_6, n_6, m_6, s_6⟩ := ho_3 _ rfl
    refine lv_astore_n (lv' := [(2, .ref r_4), (0, .ref (g 10)), (1, .int x)]) hx hb dX10_beats_8 rfl hl (by decide) rfl (fun ls hl => ?_)
    refine lv_aload_n hx hb dX10_beats_9 rfl (lv_at hl 0 rfl) ?_
    refine lv_ifnonnull (tgt := 17) hx hb dX10_beats_10 (by decide) ?_
    refine lv_aload_n hx hb dX10_beats_17 rfl (lv_at hl 0 rfl) ?_
    obtain ⟨len_7, fg_7, v1_7, v2_7, v3_7, mp_7, sp_7⟩ := op_0 hI m_6 s_6
    obtain ⟨w1_7, w2_7, w3_7, w4_7, w5_7⟩ := lenw hj v1_7 v2_7 v3_7
    refine t_getN (D := D) (L := L) (f := f) (ci := 5) (v := .int len_7) (C := RX5) (T := TX5) (N := 4) (host := "JugglingHall") hx hb hts (by decide +kernel) hown hK.1 hP m_6 fg_7 rfl 3 (by decide) (hK.nw (.fieldLinkNest RX10 115 "JugglingHall$Row" "length" "I" "JugglingHall") (by decide +kernel) rfl) (fun _ h9 => h9) rfl dX10_beats_18 ?_
    exact rp_iret hx hb hr hlocks hS (trivial) hQ dX10_beats_21
set_option maxRecDepth 100000 in
set_option maxHeartbeats 4000000 in
theorem t_X10_thrown (l : Launch) (D : va_G) (cI cR cM : ClassId) (sz : Nat) {jn : Nat} {g : Nat → Nat} {L : List Nat} {S : Sg} {f : Nat → va_E} {x y v k t : Int32}  (hj : 1 ≤ jn ∧ jn ≤ 3) (hG : SG g L S) (hI : IN jn cI cR cM g L S f)  : Met l yX10_thrown wsX10_thrown ({ frames := 2, cells := 0, slots := 0, locals := 43 }) (P0 D cI cR cM [.ref (g 10), .int x, .int y, .int v, .int k, .int t] sz (va_pl L f)) (QP (fun r => True) sz) 0 0 (va_A [] sz) := by
  refine go (cc := cX10_thrown) (maxL := 8) (ret := (some .int)) (by decide +kernel) rfl (Nat.le_of_ble_eq_true rfl) ?_
  intro p e s m below meth c ls args Q hQ hsz hx hb hr hml hts hown hlocks hnm hP hK hD hl
  subst hsz
  have hS : va_S (va_A [] s.heap.size) s.heap s.heap [] := va_S.rf
  have hA : ∀ q, s.heap.size ≤ q → va_A [] s.heap.size q := fun q h => Or.inr h
  have hl : lv_has ls 8 [(0, .ref (g 10)), (1, .int x), (2, .int y), (3, .int v), (4, .int k), (5, .int t)] := hl
  refine lv_aload_n hx hb dX10_thrown_0 rfl (lv_at hl 0 rfl) ?_
  have fg_1 := op_10 hI (gm_10 hG) (gs_10 hG)
  refine t_get (D := D) (L := L) (f := f) (ci := 10) (v := .ref (g 12)) (C := RX10) (T := TX10) (N := 8) hx hb hts (by decide +kernel) hown hK.1 hP (gm_10 hG) fg_1 rfl 2 (by decide) (hts (.fieldLink RX10 32 "JugglingHall" "book" "LJugglingHall$Book;") (by decide +kernel)) (fun _ h9 => h9) rfl dX10_thrown_1 ?_
  refine lv_iload_n hx hb dX10_thrown_4 rfl (lv_at hl 1 rfl) ?_
  obtain ⟨tm_2, lk_2, fg_2, iv0_2, iv1_2, iv2_2⟩ := op_12 hI (gm_12 hG) (gs_12 hG)
  refine roR (va_runV (As := [.int x]) (rest := []) ⟨hx, hb, hml, hown, hts⟩ (t_X0_rowSeen l D cI cR cM _  hj hG hI  ) (cwV 1 hts gX10_thrown_X0_rowSeen rfl rfl rfl (by decide +kernel) ⟨Nat.le_of_ble_eq_true rfl, Nat.le_of_ble_eq_true rfl⟩) (pre_T hK hP hD (gm_12 hG) fg_2 rfl) rfl rfl hl.1 rfl (lv_room (Nat.le_of_ble_eq_true rfl)) dX10_thrown_5 ⟨Nat.le_of_ble_eq_true rfl, Nat.le_of_ble_eq_true rfl⟩) hS hA hP (fun w_3 H locs hw hP hS => ?_)
  have ho_3 : (∀ z, w_3 = some z → ∃ p n, isRow L S z p n) := hw
  rcases x_opt w_3 with e_4 | ⟨r_4, e_4⟩
  · subst e_4
    refine W.eq (g2 := F0 m 8 ls [.null]) rfl ?_
    have hl : lv_has ls 8 [(0, .ref (g 10)), (1, .int x), (2, .int y), (3, .int v), (4, .int k), (5, .int t)] := hl
    refine lv_astoreN (lv' := [(6, .null), (0, .ref (g 10)), (1, .int x), (2, .int y), (3, .int v), (4, .int k), (5, .int t)]) hx hb dX10_thrown_8 hl (by decide) rfl (fun ls hl => ?_)
    refine lv_aloadN hx hb dX10_thrown_10 (lv_at hl 0 rfl) ?_
    refine lv_ifnonnullN hx hb dX10_thrown_12 ?_
    refine lv_iconst (v := (-1)) hx hb dX10_thrown_15 (by decide) ?_
    refine lv_goto (tgt := 28) hx hb dX10_thrown_16 (by decide) ?_
    refine lv_istore (lv' := [(7, .int (-1)), (6, .null), (0, .ref (g 10)), (1, .int x), (2, .int y), (3, .int v), (4, .int k), (5, .int t)]) hx hb dX10_thrown_28 hl (by decide) rfl (fun ls hl => ?_)
    refine lv_iload hx hb dX10_thrown_30 (lv_at hl 0 rfl) ?_
    refine lv_iconst (v := (-1)) hx hb dX10_thrown_32 (by decide) ?_
    refine a_icmp_ne (u := (-1)) (v := (-1)) (tgt := 38) hx hb dX10_thrown_33 (by decide) (by decide) (by decide) (fun c_5 => absurd c_5 (by omega)) (fun c_5 => ?_)
    refine lv_iconst (v := (-1)) hx hb dX10_thrown_36 (by decide) ?_
    have hz_6 : (-1 : Int32).toInt = (-1) := by decide
    exact rp_iret hx hb hr hlocks hS (trivial) hQ dX10_thrown_37
  · subst e_4
    refine W.eq (g2 := F0 m 8 ls [.ref r_4]) rfl ?_
    have hl : lv_has ls 8 [(0, .ref (g 10)), (1, .int x), (2, .int y), (3, .int v), (4, .int k), (5, .int t)] := hl
    obtain ⟨p_7, n_7, m_7, s_7⟩ := ho_3 _ rfl
    refine lv_astore (lv' := [(6, .ref r_4), (0, .ref (g 10)), (1, .int x), (2, .int y), (3, .int v), (4, .int k), (5, .int t)]) hx hb dX10_thrown_8 hl (by decide) rfl (fun ls hl => ?_)
    refine lv_aload hx hb dX10_thrown_10 (lv_at hl 0 rfl) ?_
    refine lv_ifnonnull (tgt := 19) hx hb dX10_thrown_12 (by decide) ?_
    refine lv_aload hx hb dX10_thrown_19 (lv_at hl 0 rfl) ?_
    refine lv_iload_n hx hb dX10_thrown_21 rfl (lv_at hl 3 rfl) ?_
    refine lv_iload_n hx hb dX10_thrown_22 rfl (lv_at hl 4 rfl) ?_
    refine lv_iload hx hb dX10_thrown_23 (lv_at hl 5 rfl) ?_
    obtain ⟨len_8, fg_8, v1_8, v2_8, v3_8, mp_8, sp_8⟩ := op_0 hI m_7 s_7
    obtain ⟨w1_8, w2_8, w3_8, w4_8, w5_8⟩ := lenw hj v1_8 v2_8 v3_8
    obtain ⟨c_9, fg_9, iv0_9⟩ := op_1 hI mp_8 sp_8
    refine roP (va_runV (As := [.int y, .int v, .int k]) (rest := []) ⟨hx, hb, hml, hown, hts⟩ (t_X5_cellAt l D cI cR cM _  hj hG hI m_7 s_7 fg_8 fg_9 ) (cwV 3 hts gX10_thrown_X5_cellAt rfl rfl rfl (by decide +kernel) ⟨Nat.le_of_ble_eq_true rfl, Nat.le_of_ble_eq_true rfl⟩) (pre_T hK hP hD m_7 fg_8 rfl) rfl rfl hl.1 rfl (lv_room (Nat.le_of_ble_eq_true rfl)) dX10_thrown_25 ⟨Nat.le_of_ble_eq_true rfl, Nat.le_of_ble_eq_true rfl⟩) hS hA hP (fun r_10 H locs hw hP hS => ?_)
    have h_10 : (r_10.toInt = -1 ∨ (0 ≤ r_10.toInt ∧ r_10.toInt < len_8.toInt * (2 * (jn : Int)))) := hw
    refine lv_istore (lv' := [(7, .int r_10), (6, .ref r_4), (0, .ref (g 10)), (1, .int x), (2, .int y), (3, .int v), (4, .int k), (5, .int t)]) hx hb dX10_thrown_28 hl (by decide) rfl (fun ls hl => ?_)
    refine lv_iload hx hb dX10_thrown_30 (lv_at hl 0 rfl) ?_
    refine lv_iconst (v := (-1)) hx hb dX10_thrown_32 (by decide) ?_
    refine a_icmp_ne (u := r_10.toInt) (v := (-1)) (tgt := 38) hx hb dX10_thrown_33 (by decide) (rfl) (by decide) (fun c_11 => ?_) (fun c_11 => ?_)
    · refine lv_iload hx hb dX10_thrown_38 (lv_at hl 7 rfl) ?_
      refine a_if_ne (u := t.toInt) (tgt := 51) hx hb dX10_thrown_40 (by decide) (rfl) (fun c_12 => ?_) (fun c_12 => ?_)
      · refine lv_iload hx hb dX10_thrown_51 (lv_at hl 7 rfl) ?_
        refine lv_iconst (v := 1) hx hb dX10_thrown_53 (by decide) ?_
        refine a_icmp_ne (u := t.toInt) (v := 1) (tgt := 77) hx hb dX10_thrown_54 (by decide) (rfl) (by decide) (fun c_13 => ?_) (fun c_13 => ?_)
        · refine lv_iconst (v := (-1)) hx hb dX10_thrown_77 (by decide) ?_
          have hz_14 : (-1 : Int32).toInt = (-1) := by decide
          exact rp_iret hx hb hr hlocks hS (trivial) hQ dX10_thrown_78
        · refine lv_aload hx hb dX10_thrown_57 (lv_at hl 1 rfl) ?_
          refine lv_iload hx hb dX10_thrown_59 (lv_at hl 0 rfl) ?_
          refine roP (va_runV (As := [.int r_10]) (rest := []) ⟨hx, hb, hml, hown, hts⟩ (t_X5_isThrow l D cI cR cM _  hj hG hI m_7 s_7 fg_8 fg_9 ) (cwV 1 hts gX10_thrown_X5_isThrow rfl rfl rfl (by decide +kernel) ⟨Nat.le_of_ble_eq_true rfl, Nat.le_of_ble_eq_true rfl⟩) (pre_T hK hP hD m_7 fg_8 rfl) rfl rfl hl.1 rfl (lv_room (Nat.le_of_ble_eq_true rfl)) dX10_thrown_61 ⟨Nat.le_of_ble_eq_true rfl, Nat.le_of_ble_eq_true rfl⟩) hS hA hP (fun r_15 H locs hw hP hS => ?_)
          obtain ⟨h_15, h01_15⟩ : (r_15.toInt = 1 → 0 ≤ r_10.toInt ∧ r_10.toInt < (n_7 : Int) ∧ (c_9 r_10.toInt.toNat).toInt ≠ 0) ∧ (r_15.toInt = 0 ∨ r_15.toInt = 1) := hw
          refine a_if_eq (u := r_15.toInt) (tgt := 77) hx hb dX10_thrown_64 (by decide) (rfl) (fun c_16 => ?_) (fun c_16 => ?_)
          · refine lv_iconst (v := (-1)) hx hb dX10_thrown_77 (by decide) ?_
            have hz_17 : (-1 : Int32).toInt = (-1) := by decide
            exact rp_iret hx hb hr hlocks hS (trivial) hQ dX10_thrown_78
          · refine lv_aload hx hb dX10_thrown_67 (lv_at hl 1 rfl) ?_
            refine lv_iload hx hb dX10_thrown_69 (lv_at hl 0 rfl) ?_
            refine roP (va_runV (As := [.int r_10]) (rest := []) ⟨hx, hb, hml, hown, hts⟩ (t_X5_target l D cI cR cM _  hj hG hI m_7 s_7 fg_8 fg_9 ) (cwV 1 hts gX10_thrown_X5_target rfl rfl rfl (by decide +kernel) ⟨Nat.le_of_ble_eq_true rfl, Nat.le_of_ble_eq_true rfl⟩) (pre_T hK hP hD m_7 fg_8 rfl) rfl rfl hl.1 rfl (lv_room (Nat.le_of_ble_eq_true rfl)) dX10_thrown_71 ⟨Nat.le_of_ble_eq_true rfl, Nat.le_of_ble_eq_true rfl⟩) hS hA hP (fun r_18 H locs hw hP hS => ?_)
            obtain ⟨h_18, ht_18⟩ : (0 ≤ r_18.toInt ∧ r_18.toInt ≤ 3) ∧ (0 ≤ r_10.toInt ∧ r_10.toInt < (n_7 : Int) ∧ (c_9 r_10.toInt.toNat).toInt ≠ 0 → r_18.toInt < (jn : Int)) := hw
            refine lv_goto (tgt := 78) hx hb dX10_thrown_74 (by decide) ?_
            exact rp_iret hx hb hr hlocks hS (trivial) hQ dX10_thrown_78
      · refine lv_aload hx hb dX10_thrown_43 (lv_at hl 1 rfl) ?_
        refine lv_iload hx hb dX10_thrown_45 (lv_at hl 0 rfl) ?_
        refine roP (va_runV (As := [.int r_10]) (rest := []) ⟨hx, hb, hml, hown, hts⟩ (t_X5_height l D cI cR cM _  hj hG hI m_7 s_7 fg_8 fg_9 ) (cwV 1 hts gX10_thrown_X5_height rfl rfl rfl (by decide +kernel) ⟨Nat.le_of_ble_eq_true rfl, Nat.le_of_ble_eq_true rfl⟩) (pre_T hK hP hD m_7 fg_8 rfl) rfl rfl hl.1 rfl (lv_room (Nat.le_of_ble_eq_true rfl)) dX10_thrown_47 ⟨Nat.le_of_ble_eq_true rfl, Nat.le_of_ble_eq_true rfl⟩) hS hA hP (fun r_19 H locs hw hP hS => ?_)
        have h_19 : (0 ≤ r_19.toInt ∧ r_19.toInt ≤ 9) := hw
        exact rp_iret hx hb hr hlocks hS (trivial) hQ dX10_thrown_50
    · refine lv_iconst (v := (-1)) hx hb dX10_thrown_36 (by decide) ?_
      have hz_20 : (-1 : Int32).toInt = (-1) := by decide
      exact rp_iret hx hb hr hlocks hS (trivial) hQ dX10_thrown_37
set_option maxRecDepth 100000 in
set_option maxHeartbeats 4000000 in
theorem t_X10_good (l : Launch) (D : va_G) (cI cR cM : ClassId) (sz : Nat) {jn : Nat} {g : Nat → Nat} {L : List Nat} {S : Sg} {f : Nat → va_E} {x y : Int32}  (hj : 1 ≤ jn ∧ jn ≤ 3) (hG : SG g L S) (hI : IN jn cI cR cM g L S f)  : Met l yX10_good wsX10_good ({ frames := 4, cells := 0, slots := 0, locals := 87 }) (P0 D cI cR cM [.ref (g 10), .int x, .int y] sz (va_pl L f)) (QG (S := Int32 × (Nat → va_E)) (fun u => some (.int u.1)) (fun u => va_pl L u.2) (fun u => IN jn cI cR cM g L S u.2 ∧ FR S [35] f u.2) D (va_A (va_pl L f) sz)) 0 0 (va_A (va_pl L f) sz) := by
  refine go (cc := cX10_good) (maxL := 5) (ret := (some .int)) (by decide +kernel) rfl (Nat.le_of_ble_eq_true rfl) ?_
  intro p e s m below meth c ls args Q hQ hsz hx hb hr hml hts hown hlocks hnm hP hK hD hl
  subst hsz
  have hD := hD.self (sz := s.heap.size)
  generalize hAe : va_A (va_pl L f) s.heap.size = A at hD hQ
  have hA : ∀ q, s.heap.size ≤ q → A q := fun q h => by rw [← hAe]; exact Or.inr h
  have hS : va_S A s.heap s.heap [] := va_S.rf
  have hF : FR S [35] f f := FR_rf
  have hl : lv_has ls 5 [(0, .ref (g 10)), (1, .int x), (2, .int y)] := hl
  refine lv_aload_n hx hb dX10_good_0 rfl (lv_at hl 0 rfl) ?_
  have fg_1 := op_10 hI (gm_10 hG) (gs_10 hG)
  refine t_get (D := D) (L := L) (f := f) (ci := 10) (v := .ref (g 12)) (C := RX10) (T := TX10) (N := 8) hx hb hts (by decide +kernel) hown hK.1 hP (gm_10 hG) fg_1 rfl 2 (by decide) (hts (.fieldLink RX10 32 "JugglingHall" "book" "LJugglingHall$Book;") (by decide +kernel)) (fun _ h9 => h9) rfl dX10_good_1 ?_
  refine lv_iload_n hx hb dX10_good_4 rfl (lv_at hl 1 rfl) ?_
  obtain ⟨tm_2, lk_2, fg_2, iv0_2, iv1_2, iv2_2⟩ := op_12 hI (gm_12 hG) (gs_12 hG)
  refine roR (va_runV (As := [.int x]) (rest := []) ⟨hx, hb, hml, hown, hts⟩ (t_X0_rowSeen l D cI cR cM _  hj hG hI  ) (cwV 1 hts gX10_good_X0_rowSeen rfl rfl rfl (by decide +kernel) ⟨Nat.le_of_ble_eq_true rfl, Nat.le_of_ble_eq_true rfl⟩) (pre_T hK hP hD (gm_12 hG) fg_2 rfl) rfl rfl hl.1 rfl (lv_room (Nat.le_of_ble_eq_true rfl)) dX10_good_5 ⟨Nat.le_of_ble_eq_true rfl, Nat.le_of_ble_eq_true rfl⟩) hS hA hP (fun w_3 H locs hw hP hS => ?_)
  have ho_3 : (∀ z, w_3 = some z → ∃ p n, isRow L S z p n) := hw
  rcases x_opt w_3 with e_4 | ⟨r_4, e_4⟩
  · subst e_4
    refine W.eq (g2 := F0 m 8 ls [.null]) rfl ?_
    have hl : lv_has ls 5 [(0, .ref (g 10)), (1, .int x), (2, .int y)] := hl
    refine lv_astore_nN (lv' := [(3, .null), (0, .ref (g 10)), (1, .int x), (2, .int y)]) hx hb dX10_good_8 rfl hl (by decide) rfl (fun ls hl => ?_)
    refine lv_aload_nN hx hb dX10_good_9 rfl (lv_at hl 0 rfl) ?_
    refine lv_ifnonnullN hx hb dX10_good_10 ?_
    refine lv_iconst (v := (-1)) hx hb dX10_good_13 (by decide) ?_
    have hz_5 : (-1 : Int32).toInt = (-1) := by decide
    exact g_iret ((-1 : Int32), f) hx hb hr hlocks hS rfl (⟨hI, hF⟩) hP hD hQ (Nat.le_of_ble_eq_true rfl) (Nat.le_of_ble_eq_true rfl) dX10_good_14
  · subst e_4
    refine W.eq (g2 := F0 m 8 ls [.ref r_4]) rfl ?_
    have hl : lv_has ls 5 [(0, .ref (g 10)), (1, .int x), (2, .int y)] := hl
    obtain ⟨p_6, n_6, m_6, s_6⟩ := ho_3 _ rfl
    refine lv_astore_n (lv' := [(3, .ref r_4), (0, .ref (g 10)), (1, .int x), (2, .int y)]) hx hb dX10_good_8 rfl hl (by decide) rfl (fun ls hl => ?_)
    refine lv_aload_n hx hb dX10_good_9 rfl (lv_at hl 0 rfl) ?_
    refine lv_ifnonnull (tgt := 15) hx hb dX10_good_10 (by decide) ?_
    refine lv_aload_n hx hb dX10_good_15 rfl (lv_at hl 1 rfl) ?_
    refine t_get (D := D) (L := L) (f := f) (ci := 10) (v := .ref (g 15)) (C := RX10) (T := TX10) (N := 8) hx hb hts (by decide +kernel) hown hK.1 hP (gm_10 hG) fg_1 rfl 4 (by decide) (hts (.fieldLink RX10 53 "JugglingHall" "catches" "LJugglingHall$Catches;") (by decide +kernel)) (fun _ h9 => h9) rfl dX10_good_16 ?_
    refine lv_aload_n hx hb dX10_good_19 rfl (lv_at hl 0 rfl) ?_
    obtain ⟨cnt_7, rw_7, fg_7, iv0_7, iv1_7, iv2_7⟩ := op_15 hI (gm_15 hG) (gs_15 hG)
    obtain ⟨len_8, fg_8, v1_8, v2_8, v3_8, mp_8, sp_8⟩ := op_0 hI m_6 s_6
    obtain ⟨w1_8, w2_8, w3_8, w4_8, w5_8⟩ := lenw hj v1_8 v2_8 v3_8
    obtain ⟨c_9, fg_9, iv0_9⟩ := op_1 hI mp_8 sp_8
    refine call_p (va_runV (As := [.ref r_4]) (rest := []) ⟨hx, hb, hml, hown, hts⟩ (t_X1_badPlace l D cI cR cM _  hj hG hI m_6 s_6 fg_8 fg_9 ) (cwV 1 hts gX10_good_X1_badPlace rfl rfl rfl (by decide +kernel) ⟨Nat.le_of_ble_eq_true rfl, Nat.le_of_ble_eq_true rfl⟩) (pre_T hK hP hD (gm_15 hG) fg_7 rfl) rfl rfl hl.1 rfl (lv_room (Nat.le_of_ble_eq_true rfl)) dX10_good_20 ⟨Nat.le_of_ble_eq_true rfl, Nat.le_of_ble_eq_true rfl⟩) hD hS hA (fun u_10 H locs hw hP hD hS => ?_)
    obtain ⟨r_10, f_10⟩ := u_10
    obtain ⟨hI, hF_10, h_10⟩ : IN jn cI cR cM g L S f_10 ∧ FR S [35] f f_10 ∧ (-1 ≤ r_10.toInt ∧ r_10.toInt ≤ 71) := hw
    have hP : va_P D vwCl (va_pl L f_10) H := hP
    have hD : va_D A (va_pl L f_10) := hD
    have hF := FR_tr hF hF_10 (by decide)
    have fb_11 : f_10 (g 10) = .inr (10, [.int (nI jn), .ref (g 11), .ref (g 12), .ref (g 13), .ref (g 15), .ref (g 16), .ref (g 17), .ref (g 18)]) := FR_at hF_10 (gs_10 hG) (show (10 : Nat) ∉ ([35] : List Nat) by decide) fg_1
    have fb_12 : f_10 (g 12) = .inr (0, [.ref (g 20), .ref (g 21), .int tm_2, .int lk_2]) := FR_at hF_10 (gs_12 hG) (show (12 : Nat) ∉ ([35] : List Nat) by decide) fg_2
    have fb_13 : f_10 (g 15) = .inr (1, [.ref (g 35), .ref (g 27), .ref (g 36), .ref (g 37), .ref (g 38), .ref (g 39), .int cnt_7, va_rf rw_7]) := FR_at hF_10 (gs_15 hG) (show (15 : Nat) ∉ ([35] : List Nat) by decide) fg_7
    have fb_14 : f_10 r_4 = .inr (5, [.int (nI jn), .int (nI (2 * jn)), .ref p_6, .int len_8]) := FR_at hF_10 s_6 (show (0 : Nat) ∉ ([35] : List Nat) by decide) fg_8
    have fb_15 : f_10 p_6 = .inl (cI, n_6, .inl c_9) := FR_at hF_10 sp_8 (show (1 : Nat) ∉ ([35] : List Nat) by decide) fg_9
    refine lv_istore (lv' := [(4, .int r_10), (3, .ref r_4), (0, .ref (g 10)), (1, .int x), (2, .int y)]) hx hb dX10_good_23 hl (by decide) rfl (fun ls hl => ?_)
    refine lv_iload_n hx hb dX10_good_25 rfl (lv_at hl 4 rfl) ?_
    have hu_16 : y.toInt = y.toInt := rfl
    rcases (show (y.toInt < 0 ∨ 4 < y.toInt) ∨ (y.toInt = 0) ∨ (y.toInt = 1) ∨ (y.toInt = 2) ∨ (y.toInt = 3) ∨ (y.toInt = 4) by omega) with c_16 | c_16 | c_16 | c_16 | c_16 | c_16
    · refine lv_tableOut (tgt := 138) hx hb dX10_good_26 (by omega) (by decide) ?_
      refine lv_iconst (v := (-1)) hx hb dX10_good_138 (by decide) ?_
      have hz_17 : (-1 : Int32).toInt = (-1) := by decide
      exact g_iret ((-1 : Int32), f_10) hx hb hr hlocks hS rfl (⟨hI, hF⟩) hP hD hQ (Nat.le_of_ble_eq_true rfl) (Nat.le_of_ble_eq_true rfl) dX10_good_139
    · refine lv_tableIn (off := 34) (tgt := 60) hx hb dX10_good_26 (by omega) (by omega) (by rw [show (y.toInt - 0).toNat = 0 by omega]; rfl) (by decide) ?_
      refine lv_iload hx hb dX10_good_60 (lv_at hl 0 rfl) ?_
      refine lv_iconst (v := (-1)) hx hb dX10_good_62 (by decide) ?_
      refine a_icmp_ne (u := r_10.toInt) (v := (-1)) (tgt := 70) hx hb dX10_good_63 (by decide) (rfl) (by decide) (fun c_18 => ?_) (fun c_18 => ?_)
      · refine lv_iconst (v := 0) hx hb dX10_good_70 (by decide) ?_
        have hz_19 : (0 : Int32).toInt = 0 := by decide
        exact g_iret ((0 : Int32), f_10) hx hb hr hlocks hS rfl (⟨hI, hF⟩) hP hD hQ (Nat.le_of_ble_eq_true rfl) (Nat.le_of_ble_eq_true rfl) dX10_good_71
      · refine lv_iconst (v := 1) hx hb dX10_good_66 (by decide) ?_
        refine lv_goto (tgt := 71) hx hb dX10_good_67 (by decide) ?_
        have hz_20 : (1 : Int32).toInt = 1 := by decide
        exact g_iret ((1 : Int32), f_10) hx hb hr hlocks hS rfl (⟨hI, hF⟩) hP hD hQ (Nat.le_of_ble_eq_true rfl) (Nat.le_of_ble_eq_true rfl) dX10_good_71
    · refine lv_tableIn (off := 46) (tgt := 72) hx hb dX10_good_26 (by omega) (by omega) (by rw [show (y.toInt - 0).toNat = 1 by omega]; rfl) (by decide) ?_
      refine lv_iload hx hb dX10_good_72 (lv_at hl 0 rfl) ?_
      refine lv_iconst (v := (-1)) hx hb dX10_good_74 (by decide) ?_
      refine a_icmp_ne (u := r_10.toInt) (v := (-1)) (tgt := 82) hx hb dX10_good_75 (by decide) (rfl) (by decide) (fun c_21 => ?_) (fun c_21 => ?_)
      · refine lv_aload_n hx hb dX10_good_82 rfl (lv_at hl 1 rfl) ?_
        refine lv_iload hx hb dX10_good_83 (lv_at hl 0 rfl) ?_
        refine lv_iconst (v := 2) hx hb dX10_good_85 (by decide) ?_
        refine a_imul (u := r_10.toInt) (v := 2) hx hb dX10_good_86 (rfl) (by decide) (by omega) (fun z_22 e_22 => ?_)
        refine roP (va_runV (As := [.int z_22]) (rest := []) ⟨hx, hb, hml, hown, hts⟩ (t_X5_beatOf l D cI cR cM _  hj hG hI m_6 s_6 fb_14 fb_15 ) (cwV 1 hts gX10_good_X5_beatOf rfl rfl rfl (by decide +kernel) ⟨Nat.le_of_ble_eq_true rfl, Nat.le_of_ble_eq_true rfl⟩) (pre_T hK hP hD m_6 fb_14 rfl) rfl rfl hl.1 rfl (lv_room (Nat.le_of_ble_eq_true rfl)) dX10_good_87 ⟨Nat.le_of_ble_eq_true rfl, Nat.le_of_ble_eq_true rfl⟩) hS hA hP (fun r_23 H locs hw hP hS => ?_)
        have h_23 : (0 ≤ z_22.toInt → 0 ≤ r_23.toInt ∧ r_23.toInt ≤ z_22.toInt) := hw
        exact g_iret (r_23, f_10) hx hb hr hlocks hS rfl (⟨hI, hF⟩) hP hD hQ (Nat.le_of_ble_eq_true rfl) (Nat.le_of_ble_eq_true rfl) dX10_good_90
      · refine lv_iconst (v := (-1)) hx hb dX10_good_78 (by decide) ?_
        refine lv_goto (tgt := 90) hx hb dX10_good_79 (by decide) ?_
        have hz_24 : (-1 : Int32).toInt = (-1) := by decide
        exact g_iret ((-1 : Int32), f_10) hx hb hr hlocks hS rfl (⟨hI, hF⟩) hP hD hQ (Nat.le_of_ble_eq_true rfl) (Nat.le_of_ble_eq_true rfl) dX10_good_90
    · refine lv_tableIn (off := 65) (tgt := 91) hx hb dX10_good_26 (by omega) (by omega) (by rw [show (y.toInt - 0).toNat = 2 by omega]; rfl) (by decide) ?_
      refine lv_iload hx hb dX10_good_91 (lv_at hl 0 rfl) ?_
      refine lv_iconst (v := (-1)) hx hb dX10_good_93 (by decide) ?_
      refine a_icmp_ne (u := r_10.toInt) (v := (-1)) (tgt := 101) hx hb dX10_good_94 (by decide) (rfl) (by decide) (fun c_25 => ?_) (fun c_25 => ?_)
      · refine lv_aload_n hx hb dX10_good_101 rfl (lv_at hl 1 rfl) ?_
        refine lv_iload hx hb dX10_good_102 (lv_at hl 0 rfl) ?_
        refine lv_iconst (v := 2) hx hb dX10_good_104 (by decide) ?_
        refine a_imul (u := r_10.toInt) (v := 2) hx hb dX10_good_105 (rfl) (by decide) (by omega) (fun z_26 e_26 => ?_)
        refine roP (va_runV (As := [.int z_26]) (rest := []) ⟨hx, hb, hml, hown, hts⟩ (t_X5_jugglerOf l D cI cR cM _  hj hG hI m_6 s_6 fb_14 fb_15 ) (cwV 1 hts gX10_good_X5_jugglerOf rfl rfl rfl (by decide +kernel) ⟨Nat.le_of_ble_eq_true rfl, Nat.le_of_ble_eq_true rfl⟩) (pre_T hK hP hD m_6 fb_14 rfl) rfl rfl hl.1 rfl (lv_room (Nat.le_of_ble_eq_true rfl)) dX10_good_106 ⟨Nat.le_of_ble_eq_true rfl, Nat.le_of_ble_eq_true rfl⟩) hS hA hP (fun r_27 H locs hw hP hS => ?_)
        have h_27 : (0 ≤ z_26.toInt → 0 ≤ r_27.toInt ∧ r_27.toInt < (jn : Int)) := hw
        exact g_iret (r_27, f_10) hx hb hr hlocks hS rfl (⟨hI, hF⟩) hP hD hQ (Nat.le_of_ble_eq_true rfl) (Nat.le_of_ble_eq_true rfl) dX10_good_109
      · refine lv_iconst (v := (-1)) hx hb dX10_good_97 (by decide) ?_
        refine lv_goto (tgt := 109) hx hb dX10_good_98 (by decide) ?_
        have hz_28 : (-1 : Int32).toInt = (-1) := by decide
        exact g_iret ((-1 : Int32), f_10) hx hb hr hlocks hS rfl (⟨hI, hF⟩) hP hD hQ (Nat.le_of_ble_eq_true rfl) (Nat.le_of_ble_eq_true rfl) dX10_good_109
    · refine lv_tableIn (off := 84) (tgt := 110) hx hb dX10_good_26 (by omega) (by omega) (by rw [show (y.toInt - 0).toNat = 3 by omega]; rfl) (by decide) ?_
      refine lv_iload hx hb dX10_good_110 (lv_at hl 0 rfl) ?_
      refine lv_iconst (v := (-1)) hx hb dX10_good_112 (by decide) ?_
      refine a_icmp_ne (u := r_10.toInt) (v := (-1)) (tgt := 123) hx hb dX10_good_113 (by decide) (rfl) (by decide) (fun c_29 => ?_) (fun c_29 => ?_)
      · refine lv_iconst (v := (-1)) hx hb dX10_good_123 (by decide) ?_
        have hz_30 : (-1 : Int32).toInt = (-1) := by decide
        exact g_iret ((-1 : Int32), f_10) hx hb hr hlocks hS rfl (⟨hI, hF⟩) hP hD hQ (Nat.le_of_ble_eq_true rfl) (Nat.le_of_ble_eq_true rfl) dX10_good_124
      · refine lv_aload_n hx hb dX10_good_116 rfl (lv_at hl 1 rfl) ?_
        refine roP (va_runV (As := []) (rest := []) ⟨hx, hb, hml, hown, hts⟩ (t_X5_balls l D cI cR cM _  hj hG hI m_6 s_6 fb_14 fb_15 ) (cwV 0 hts gX10_good_X5_balls rfl rfl rfl (by decide +kernel) ⟨Nat.le_of_ble_eq_true rfl, Nat.le_of_ble_eq_true rfl⟩) (pre_T hK hP hD m_6 fb_14 rfl) rfl rfl hl.1 rfl (lv_room (Nat.le_of_ble_eq_true rfl)) dX10_good_117 ⟨Nat.le_of_ble_eq_true rfl, Nat.le_of_ble_eq_true rfl⟩) hS hA hP (fun r_31 H locs hw hP hS => ?_)
        refine lv_goto (tgt := 124) hx hb dX10_good_120 (by decide) ?_
        exact g_iret (r_31, f_10) hx hb hr hlocks hS rfl (⟨hI, hF⟩) hP hD hQ (Nat.le_of_ble_eq_true rfl) (Nat.le_of_ble_eq_true rfl) dX10_good_124
    · refine lv_tableIn (off := 99) (tgt := 125) hx hb dX10_good_26 (by omega) (by omega) (by rw [show (y.toInt - 0).toNat = 4 by omega]; rfl) (by decide) ?_
      refine lv_aload_n hx hb dX10_good_125 rfl (lv_at hl 1 rfl) ?_
      refine roP (va_runV (As := []) (rest := []) ⟨hx, hb, hml, hown, hts⟩ (t_X5_isPlain l D cI cR cM _  hj hG hI m_6 s_6 fb_14 fb_15 ) (cwV 0 hts gX10_good_X5_isPlain rfl rfl rfl (by decide +kernel) ⟨Nat.le_of_ble_eq_true rfl, Nat.le_of_ble_eq_true rfl⟩) (pre_T hK hP hD m_6 fb_14 rfl) rfl rfl hl.1 rfl (lv_room (Nat.le_of_ble_eq_true rfl)) dX10_good_126 ⟨Nat.le_of_ble_eq_true rfl, Nat.le_of_ble_eq_true rfl⟩) hS hA hP (fun r_32 H locs hw hP hS => ?_)
      have h01_32 : (r_32.toInt = 0 ∨ r_32.toInt = 1) := hw
      refine a_if_eq (u := r_32.toInt) (tgt := 136) hx hb dX10_good_129 (by decide) (rfl) (fun c_33 => ?_) (fun c_33 => ?_)
      · refine lv_iconst (v := 0) hx hb dX10_good_136 (by decide) ?_
        have hz_34 : (0 : Int32).toInt = 0 := by decide
        exact g_iret ((0 : Int32), f_10) hx hb hr hlocks hS rfl (⟨hI, hF⟩) hP hD hQ (Nat.le_of_ble_eq_true rfl) (Nat.le_of_ble_eq_true rfl) dX10_good_137
      · refine lv_iconst (v := 1) hx hb dX10_good_132 (by decide) ?_
        refine lv_goto (tgt := 137) hx hb dX10_good_133 (by decide) ?_
        have hz_35 : (1 : Int32).toInt = 1 := by decide
        exact g_iret ((1 : Int32), f_10) hx hb hr hlocks hS rfl (⟨hI, hF⟩) hP hD hQ (Nat.le_of_ble_eq_true rfl) (Nat.le_of_ble_eq_true rfl) dX10_good_137
set_option maxRecDepth 100000 in
set_option maxHeartbeats 4000000 in
theorem t_X10_cycles (l : Launch) (D : va_G) (cI cR cM : ClassId) (sz : Nat) {jn : Nat} {g : Nat → Nat} {L : List Nat} {S : Sg} {f : Nat → va_E} {x : Int32}  (hj : 1 ≤ jn ∧ jn ≤ 3) (hG : SG g L S) (hI : IN jn cI cR cM g L S f)  : Met l yX10_cycles wsX10_cycles ({ frames := 5, cells := 0, slots := 0, locals := 109 }) (P0 D cI cR cM [.ref (g 10), .int x] sz (va_pl L f)) (QG (S := Int32 × (Nat → va_E)) (fun u => some (.int u.1)) (fun u => va_pl L u.2) (fun u => IN jn cI cR cM g L S u.2 ∧ FR S [15, 27, 35, 36, 37, 38, 39] f u.2) D (va_A (va_pl L f) sz)) 0 0 (va_A (va_pl L f) sz) := by
  refine go (cc := cX10_cycles) (maxL := 2) (ret := (some .int)) (by decide +kernel) rfl (Nat.le_of_ble_eq_true rfl) ?_
  intro p e s m below meth c ls args Q hQ hsz hx hb hr hml hts hown hlocks hnm hP hK hD hl
  subst hsz
  have hD := hD.self (sz := s.heap.size)
  generalize hAe : va_A (va_pl L f) s.heap.size = A at hD hQ
  have hA : ∀ q, s.heap.size ≤ q → A q := fun q h => by rw [← hAe]; exact Or.inr h
  have hS : va_S A s.heap s.heap [] := va_S.rf
  have hF : FR S [15, 27, 35, 36, 37, 38, 39] f f := FR_rf
  have hl : lv_has ls 2 [(0, .ref (g 10)), (1, .int x)] := hl
  refine lv_aload_n hx hb dX10_cycles_0 rfl (lv_at hl 0 rfl) ?_
  have fg_1 := op_10 hI (gm_10 hG) (gs_10 hG)
  refine t_get (D := D) (L := L) (f := f) (ci := 10) (v := .ref (g 15)) (C := RX10) (T := TX10) (N := 8) hx hb hts (by decide +kernel) hown hK.1 hP (gm_10 hG) fg_1 rfl 4 (by decide) (hts (.fieldLink RX10 53 "JugglingHall" "catches" "LJugglingHall$Catches;") (by decide +kernel)) (fun _ h9 => h9) rfl dX10_cycles_1 ?_
  refine lv_aload_n hx hb dX10_cycles_4 rfl (lv_at hl 0 rfl) ?_
  refine t_get (D := D) (L := L) (f := f) (ci := 10) (v := .ref (g 12)) (C := RX10) (T := TX10) (N := 8) hx hb hts (by decide +kernel) hown hK.1 hP (gm_10 hG) fg_1 rfl 2 (by decide) (hts (.fieldLink RX10 32 "JugglingHall" "book" "LJugglingHall$Book;") (by decide +kernel)) (fun _ h9 => h9) rfl dX10_cycles_5 ?_
  refine lv_iload_n hx hb dX10_cycles_8 rfl (lv_at hl 1 rfl) ?_
  obtain ⟨tm_2, lk_2, fg_2, iv0_2, iv1_2, iv2_2⟩ := op_12 hI (gm_12 hG) (gs_12 hG)
  refine roR (va_runV (As := [.int x]) (rest := [.ref (g 15)]) ⟨hx, hb, hml, hown, hts⟩ (t_X0_rowSeen l D cI cR cM _  hj hG hI  ) (cwV 1 hts gX10_cycles_X0_rowSeen rfl rfl rfl (by decide +kernel) ⟨Nat.le_of_ble_eq_true rfl, Nat.le_of_ble_eq_true rfl⟩) (pre_T hK hP hD (gm_12 hG) fg_2 rfl) rfl rfl hl.1 rfl (lv_room (Nat.le_of_ble_eq_true rfl)) dX10_cycles_9 ⟨Nat.le_of_ble_eq_true rfl, Nat.le_of_ble_eq_true rfl⟩) hS hA hP (fun w_3 H locs hw hP hS => ?_)
  have ho_3 : (∀ z, w_3 = some z → ∃ p n, isRow L S z p n) := hw
  rcases x_opt w_3 with e_4 | ⟨r_4, e_4⟩
  · subst e_4
    refine W.eq (g2 := F0 m 12 ls [.null, .ref (g 15)]) rfl ?_
    have hl : lv_has ls 2 [(0, .ref (g 10)), (1, .int x)] := hl
    obtain ⟨cnt_5, rw_5, fg_5, iv0_5, iv1_5, iv2_5⟩ := op_15 hI (gm_15 hG) (gs_15 hG)
    refine roP (va_runV (As := [.null]) (rest := []) ⟨hx, hb, hml, hown, hts⟩ (t_X1_lead_null l D cI cR cM _  hj hG hI  ) (cwV 1 hts gX10_cycles_X1_lead rfl rfl rfl (by decide +kernel) ⟨Nat.le_of_ble_eq_true rfl, Nat.le_of_ble_eq_true rfl⟩) (pre_T hK hP hD (gm_15 hG) fg_5 rfl) rfl rfl hl.1 rfl (lv_room (Nat.le_of_ble_eq_true rfl)) dX10_cycles_12 ⟨Nat.le_of_ble_eq_true rfl, Nat.le_of_ble_eq_true rfl⟩) hS hA hP (fun r_6 H locs hw hP hS => ?_)
    obtain ⟨h0_6, h01_6⟩ : (r_6.toInt = 0) ∧ (r_6.toInt = 0 ∨ r_6.toInt = 1) := hw
    refine a_if_eq (u := r_6.toInt) (tgt := 28) hx hb dX10_cycles_15 (by decide) (rfl) (fun c_7 => ?_) (fun c_7 => ?_)
    · refine lv_iconst (v := (-1)) hx hb dX10_cycles_28 (by decide) ?_
      have hz_8 : (-1 : Int32).toInt = (-1) := by decide
      exact g_iret ((-1 : Int32), f) hx hb hr hlocks hS rfl (⟨hI, hF⟩) hP hD hQ (Nat.le_of_ble_eq_true rfl) (Nat.le_of_ble_eq_true rfl) dX10_cycles_29
    · refine lv_aload_n hx hb dX10_cycles_18 rfl (lv_at hl 0 rfl) ?_
      refine t_get (D := D) (L := L) (f := f) (ci := 10) (v := .ref (g 15)) (C := RX10) (T := TX10) (N := 8) hx hb hts (by decide +kernel) hown hK.1 hP (gm_10 hG) fg_1 rfl 4 (by decide) (hts (.fieldLink RX10 53 "JugglingHall" "catches" "LJugglingHall$Catches;") (by decide +kernel)) (fun _ h9 => h9) rfl dX10_cycles_19 ?_
      refine t_getN (D := D) (L := L) (f := f) (ci := 1) (v := .int cnt_5) (C := RX1) (T := TX1) (N := 8) (host := "JugglingHall") hx hb hts (by decide +kernel) hown hK.1 hP (gm_15 hG) fg_5 rfl 6 (by decide) (hK.nw (.fieldLinkNest RX10 153 "JugglingHall$Catches" "count" "I" "JugglingHall") (by decide +kernel) rfl) (fun _ h9 => h9) rfl dX10_cycles_22 ?_
      refine lv_goto (tgt := 29) hx hb dX10_cycles_25 (by decide) ?_
      exact g_iret (cnt_5, f) hx hb hr hlocks hS rfl (⟨hI, hF⟩) hP hD hQ (Nat.le_of_ble_eq_true rfl) (Nat.le_of_ble_eq_true rfl) dX10_cycles_29
  · subst e_4
    refine W.eq (g2 := F0 m 12 ls [.ref r_4, .ref (g 15)]) rfl ?_
    have hl : lv_has ls 2 [(0, .ref (g 10)), (1, .int x)] := hl
    obtain ⟨p_9, n_9, m_9, s_9⟩ := ho_3 _ rfl
    obtain ⟨cnt_10, rw_10, fg_10, iv0_10, iv1_10, iv2_10⟩ := op_15 hI (gm_15 hG) (gs_15 hG)
    obtain ⟨len_11, fg_11, v1_11, v2_11, v3_11, mp_11, sp_11⟩ := op_0 hI m_9 s_9
    obtain ⟨w1_11, w2_11, w3_11, w4_11, w5_11⟩ := lenw hj v1_11 v2_11 v3_11
    obtain ⟨c_12, fg_12, iv0_12⟩ := op_1 hI mp_11 sp_11
    refine call_p (va_runV (As := [.ref r_4]) (rest := []) ⟨hx, hb, hml, hown, hts⟩ (t_X1_lead l D cI cR cM _  hj hG hI m_9 s_9 fg_11 fg_12 ) (cwV 1 hts gX10_cycles_X1_lead rfl rfl rfl (by decide +kernel) ⟨Nat.le_of_ble_eq_true rfl, Nat.le_of_ble_eq_true rfl⟩) (pre_T hK hP hD (gm_15 hG) fg_10 rfl) rfl rfl hl.1 rfl (lv_room (Nat.le_of_ble_eq_true rfl)) dX10_cycles_12 ⟨Nat.le_of_ble_eq_true rfl, Nat.le_of_ble_eq_true rfl⟩) hD hS hA (fun u_13 H locs hw hP hD hS => ?_)
    obtain ⟨r_13, f_13⟩ := u_13
    obtain ⟨hI, hF_13, hc_13, h01_13⟩ : IN jn cI cR cM g L S f_13 ∧ FR S [15, 27, 35, 36, 37, 38, 39] f f_13 ∧ (r_13.toInt = 1 → ∃ k9 : Int32, f_13 (g 15) = .inr (1, [.ref (g 35), .ref (g 27), .ref (g 36), .ref (g 37), .ref (g 38), .ref (g 39), .int k9, va_rf (some r_4)]) ∧ 0 ≤ k9.toInt ∧ k9.toInt ≤ 144) ∧ (r_13.toInt = 0 ∨ r_13.toInt = 1) := hw
    have hP : va_P D vwCl (va_pl L f_13) H := hP
    have hD : va_D A (va_pl L f_13) := hD
    have hF := FR_tr hF hF_13 (by decide)
    have fb_14 : f_13 (g 10) = .inr (10, [.int (nI jn), .ref (g 11), .ref (g 12), .ref (g 13), .ref (g 15), .ref (g 16), .ref (g 17), .ref (g 18)]) := FR_at hF_13 (gs_10 hG) (show (10 : Nat) ∉ ([15, 27, 35, 36, 37, 38, 39] : List Nat) by decide) fg_1
    have fb_15 : f_13 (g 12) = .inr (0, [.ref (g 20), .ref (g 21), .int tm_2, .int lk_2]) := FR_at hF_13 (gs_12 hG) (show (12 : Nat) ∉ ([15, 27, 35, 36, 37, 38, 39] : List Nat) by decide) fg_2
    have fb_16 : f_13 r_4 = .inr (5, [.int (nI jn), .int (nI (2 * jn)), .ref p_9, .int len_11]) := FR_at hF_13 s_9 (show (0 : Nat) ∉ ([15, 27, 35, 36, 37, 38, 39] : List Nat) by decide) fg_11
    have fb_17 : f_13 p_9 = .inl (cI, n_9, .inl c_12) := FR_at hF_13 sp_11 (show (1 : Nat) ∉ ([15, 27, 35, 36, 37, 38, 39] : List Nat) by decide) fg_12
    refine a_if_eq (u := r_13.toInt) (tgt := 28) hx hb dX10_cycles_15 (by decide) (rfl) (fun c_18 => ?_) (fun c_18 => ?_)
    · refine lv_iconst (v := (-1)) hx hb dX10_cycles_28 (by decide) ?_
      have hz_19 : (-1 : Int32).toInt = (-1) := by decide
      exact g_iret ((-1 : Int32), f_13) hx hb hr hlocks hS rfl (⟨hI, hF⟩) hP hD hQ (Nat.le_of_ble_eq_true rfl) (Nat.le_of_ble_eq_true rfl) dX10_cycles_29
    · refine lv_aload_n hx hb dX10_cycles_18 rfl (lv_at hl 0 rfl) ?_
      refine t_get (D := D) (L := L) (f := f_13) (ci := 10) (v := .ref (g 15)) (C := RX10) (T := TX10) (N := 8) hx hb hts (by decide +kernel) hown hK.1 hP (gm_10 hG) fb_14 rfl 4 (by decide) (hts (.fieldLink RX10 53 "JugglingHall" "catches" "LJugglingHall$Catches;") (by decide +kernel)) (fun _ h9 => h9) rfl dX10_cycles_19 ?_
      obtain ⟨cnt_20, rw_20, fg_20, iv0_20, iv1_20, iv2_20⟩ := op_15 hI (gm_15 hG) (gs_15 hG)
      refine t_getN (D := D) (L := L) (f := f_13) (ci := 1) (v := .int cnt_20) (C := RX1) (T := TX1) (N := 8) (host := "JugglingHall") hx hb hts (by decide +kernel) hown hK.1 hP (gm_15 hG) fg_20 rfl 6 (by decide) (hK.nw (.fieldLinkNest RX10 153 "JugglingHall$Catches" "count" "I" "JugglingHall") (by decide +kernel) rfl) (fun _ h9 => h9) rfl dX10_cycles_22 ?_
      refine lv_goto (tgt := 29) hx hb dX10_cycles_25 (by decide) ?_
      exact g_iret (cnt_20, f_13) hx hb hr hlocks hS rfl (⟨hI, hF⟩) hP hD hQ (Nat.le_of_ble_eq_true rfl) (Nat.le_of_ble_eq_true rfl) dX10_cycles_29
set_option maxRecDepth 100000 in
set_option maxHeartbeats 4000000 in
theorem t_X10_cycle (l : Launch) (D : va_G) (cI cR cM : ClassId) (sz : Nat) {jn : Nat} {g : Nat → Nat} {L : List Nat} {S : Sg} {f : Nat → va_E} {x y v : Int32}  (hj : 1 ≤ jn ∧ jn ≤ 3) (hG : SG g L S) (hI : IN jn cI cR cM g L S f)  : Met l yX10_cycle wsX10_cycle ({ frames := 5, cells := 0, slots := 0, locals := 109 }) (P0 D cI cR cM [.ref (g 10), .int x, .int y, .int v] sz (va_pl L f)) (QG (S := Int32 × (Nat → va_E)) (fun u => some (.int u.1)) (fun u => va_pl L u.2) (fun u => IN jn cI cR cM g L S u.2 ∧ FR S [15, 27, 35, 36, 37, 38, 39] f u.2) D (va_A (va_pl L f) sz)) 0 0 (va_A (va_pl L f) sz) := by
  refine go (cc := cX10_cycle) (maxL := 6) (ret := (some .int)) (by decide +kernel) rfl (Nat.le_of_ble_eq_true rfl) ?_
  intro p e s m below meth c ls args Q hQ hsz hx hb hr hml hts hown hlocks hnm hP hK hD hl
  subst hsz
  have hD := hD.self (sz := s.heap.size)
  generalize hAe : va_A (va_pl L f) s.heap.size = A at hD hQ
  have hA : ∀ q, s.heap.size ≤ q → A q := fun q h => by rw [← hAe]; exact Or.inr h
  have hS : va_S A s.heap s.heap [] := va_S.rf
  have hF : FR S [15, 27, 35, 36, 37, 38, 39] f f := FR_rf
  have hl : lv_has ls 6 [(0, .ref (g 10)), (1, .int x), (2, .int y), (3, .int v)] := hl
  refine lv_aload_n hx hb dX10_cycle_0 rfl (lv_at hl 0 rfl) ?_
  have fg_1 := op_10 hI (gm_10 hG) (gs_10 hG)
  refine t_get (D := D) (L := L) (f := f) (ci := 10) (v := .ref (g 12)) (C := RX10) (T := TX10) (N := 8) hx hb hts (by decide +kernel) hown hK.1 hP (gm_10 hG) fg_1 rfl 2 (by decide) (hts (.fieldLink RX10 32 "JugglingHall" "book" "LJugglingHall$Book;") (by decide +kernel)) (fun _ h9 => h9) rfl dX10_cycle_1 ?_
  refine lv_iload_n hx hb dX10_cycle_4 rfl (lv_at hl 1 rfl) ?_
  obtain ⟨tm_2, lk_2, fg_2, iv0_2, iv1_2, iv2_2⟩ := op_12 hI (gm_12 hG) (gs_12 hG)
  refine roR (va_runV (As := [.int x]) (rest := []) ⟨hx, hb, hml, hown, hts⟩ (t_X0_rowSeen l D cI cR cM _  hj hG hI  ) (cwV 1 hts gX10_cycle_X0_rowSeen rfl rfl rfl (by decide +kernel) ⟨Nat.le_of_ble_eq_true rfl, Nat.le_of_ble_eq_true rfl⟩) (pre_T hK hP hD (gm_12 hG) fg_2 rfl) rfl rfl hl.1 rfl (lv_room (Nat.le_of_ble_eq_true rfl)) dX10_cycle_5 ⟨Nat.le_of_ble_eq_true rfl, Nat.le_of_ble_eq_true rfl⟩) hS hA hP (fun w_3 H locs hw hP hS => ?_)
  have ho_3 : (∀ z, w_3 = some z → ∃ p n, isRow L S z p n) := hw
  rcases x_opt w_3 with e_4 | ⟨r_4, e_4⟩
  · subst e_4
    refine W.eq (g2 := F0 m 8 ls [.null]) rfl ?_
    have hl : lv_has ls 6 [(0, .ref (g 10)), (1, .int x), (2, .int y), (3, .int v)] := hl
    refine lv_astoreN (lv' := [(4, .null), (0, .ref (g 10)), (1, .int x), (2, .int y), (3, .int v)]) hx hb dX10_cycle_8 hl (by decide) rfl (fun ls hl => ?_)
    refine lv_aloadN hx hb dX10_cycle_10 (lv_at hl 0 rfl) ?_
    refine lv_ifnullN (tgt := 42) hx hb dX10_cycle_12 (by decide) ?_
    refine lv_iconst (v := (-1)) hx hb dX10_cycle_42 (by decide) ?_
    have hz_5 : (-1 : Int32).toInt = (-1) := by decide
    exact g_iret ((-1 : Int32), f) hx hb hr hlocks hS rfl (⟨hI, hF⟩) hP hD hQ (Nat.le_of_ble_eq_true rfl) (Nat.le_of_ble_eq_true rfl) dX10_cycle_43
  · subst e_4
    refine W.eq (g2 := F0 m 8 ls [.ref r_4]) rfl ?_
    have hl : lv_has ls 6 [(0, .ref (g 10)), (1, .int x), (2, .int y), (3, .int v)] := hl
    obtain ⟨p_6, n_6, m_6, s_6⟩ := ho_3 _ rfl
    refine lv_astore (lv' := [(4, .ref r_4), (0, .ref (g 10)), (1, .int x), (2, .int y), (3, .int v)]) hx hb dX10_cycle_8 hl (by decide) rfl (fun ls hl => ?_)
    refine lv_aload hx hb dX10_cycle_10 (lv_at hl 0 rfl) ?_
    refine lv_ifnull hx hb dX10_cycle_12 ?_
    refine lv_aload_n hx hb dX10_cycle_15 rfl (lv_at hl 1 rfl) ?_
    refine t_get (D := D) (L := L) (f := f) (ci := 10) (v := .ref (g 15)) (C := RX10) (T := TX10) (N := 8) hx hb hts (by decide +kernel) hown hK.1 hP (gm_10 hG) fg_1 rfl 4 (by decide) (hts (.fieldLink RX10 53 "JugglingHall" "catches" "LJugglingHall$Catches;") (by decide +kernel)) (fun _ h9 => h9) rfl dX10_cycle_16 ?_
    refine lv_aload hx hb dX10_cycle_19 (lv_at hl 0 rfl) ?_
    obtain ⟨cnt_7, rw_7, fg_7, iv0_7, iv1_7, iv2_7⟩ := op_15 hI (gm_15 hG) (gs_15 hG)
    obtain ⟨len_8, fg_8, v1_8, v2_8, v3_8, mp_8, sp_8⟩ := op_0 hI m_6 s_6
    obtain ⟨w1_8, w2_8, w3_8, w4_8, w5_8⟩ := lenw hj v1_8 v2_8 v3_8
    obtain ⟨c_9, fg_9, iv0_9⟩ := op_1 hI mp_8 sp_8
    refine call_p (va_runV (As := [.ref r_4]) (rest := []) ⟨hx, hb, hml, hown, hts⟩ (t_X1_lead l D cI cR cM _  hj hG hI m_6 s_6 fg_8 fg_9 ) (cwV 1 hts gX10_cycle_X1_lead rfl rfl rfl (by decide +kernel) ⟨Nat.le_of_ble_eq_true rfl, Nat.le_of_ble_eq_true rfl⟩) (pre_T hK hP hD (gm_15 hG) fg_7 rfl) rfl rfl hl.1 rfl (lv_room (Nat.le_of_ble_eq_true rfl)) dX10_cycle_21 ⟨Nat.le_of_ble_eq_true rfl, Nat.le_of_ble_eq_true rfl⟩) hD hS hA (fun u_10 H locs hw hP hD hS => ?_)
    obtain ⟨r_10, f_10⟩ := u_10
    obtain ⟨hI, hF_10, hc_10, h01_10⟩ : IN jn cI cR cM g L S f_10 ∧ FR S [15, 27, 35, 36, 37, 38, 39] f f_10 ∧ (r_10.toInt = 1 → ∃ k9 : Int32, f_10 (g 15) = .inr (1, [.ref (g 35), .ref (g 27), .ref (g 36), .ref (g 37), .ref (g 38), .ref (g 39), .int k9, va_rf (some r_4)]) ∧ 0 ≤ k9.toInt ∧ k9.toInt ≤ 144) ∧ (r_10.toInt = 0 ∨ r_10.toInt = 1) := hw
    have hP : va_P D vwCl (va_pl L f_10) H := hP
    have hD : va_D A (va_pl L f_10) := hD
    have hF := FR_tr hF hF_10 (by decide)
    have fb_11 : f_10 (g 10) = .inr (10, [.int (nI jn), .ref (g 11), .ref (g 12), .ref (g 13), .ref (g 15), .ref (g 16), .ref (g 17), .ref (g 18)]) := FR_at hF_10 (gs_10 hG) (show (10 : Nat) ∉ ([15, 27, 35, 36, 37, 38, 39] : List Nat) by decide) fg_1
    have fb_12 : f_10 (g 12) = .inr (0, [.ref (g 20), .ref (g 21), .int tm_2, .int lk_2]) := FR_at hF_10 (gs_12 hG) (show (12 : Nat) ∉ ([15, 27, 35, 36, 37, 38, 39] : List Nat) by decide) fg_2
    have fb_13 : f_10 r_4 = .inr (5, [.int (nI jn), .int (nI (2 * jn)), .ref p_6, .int len_8]) := FR_at hF_10 s_6 (show (0 : Nat) ∉ ([15, 27, 35, 36, 37, 38, 39] : List Nat) by decide) fg_8
    have fb_14 : f_10 p_6 = .inl (cI, n_6, .inl c_9) := FR_at hF_10 sp_8 (show (1 : Nat) ∉ ([15, 27, 35, 36, 37, 38, 39] : List Nat) by decide) fg_9
    refine a_if_eq (u := r_10.toInt) (tgt := 42) hx hb dX10_cycle_24 (by decide) (rfl) (fun c_15 => ?_) (fun c_15 => ?_)
    · refine lv_iconst (v := (-1)) hx hb dX10_cycle_42 (by decide) ?_
      have hz_16 : (-1 : Int32).toInt = (-1) := by decide
      exact g_iret ((-1 : Int32), f_10) hx hb hr hlocks hS rfl (⟨hI, hF⟩) hP hD hQ (Nat.le_of_ble_eq_true rfl) (Nat.le_of_ble_eq_true rfl) dX10_cycle_43
    · refine lv_iload_n hx hb dX10_cycle_27 rfl (lv_at hl 3 rfl) ?_
      refine a_if_lt (u := y.toInt) (tgt := 42) hx hb dX10_cycle_28 (by decide) (rfl) (fun c_17 => ?_) (fun c_17 => ?_)
      · refine lv_iconst (v := (-1)) hx hb dX10_cycle_42 (by decide) ?_
        have hz_18 : (-1 : Int32).toInt = (-1) := by decide
        exact g_iret ((-1 : Int32), f_10) hx hb hr hlocks hS rfl (⟨hI, hF⟩) hP hD hQ (Nat.le_of_ble_eq_true rfl) (Nat.le_of_ble_eq_true rfl) dX10_cycle_43
      · refine lv_iload_n hx hb dX10_cycle_31 rfl (lv_at hl 3 rfl) ?_
        refine lv_aload_n hx hb dX10_cycle_32 rfl (lv_at hl 1 rfl) ?_
        refine t_get (D := D) (L := L) (f := f_10) (ci := 10) (v := .ref (g 15)) (C := RX10) (T := TX10) (N := 8) hx hb hts (by decide +kernel) hown hK.1 hP (gm_10 hG) fb_11 rfl 4 (by decide) (hts (.fieldLink RX10 53 "JugglingHall" "catches" "LJugglingHall$Catches;") (by decide +kernel)) (fun _ h9 => h9) rfl dX10_cycle_33 ?_
        obtain ⟨cnt_19, rw_19, fg_19, iv0_19, iv1_19, iv2_19⟩ := op_15 hI (gm_15 hG) (gs_15 hG)
        refine t_getN (D := D) (L := L) (f := f_10) (ci := 1) (v := .int cnt_19) (C := RX1) (T := TX1) (N := 8) (host := "JugglingHall") hx hb hts (by decide +kernel) hown hK.1 hP (gm_15 hG) fg_19 rfl 6 (by decide) (hK.nw (.fieldLinkNest RX10 153 "JugglingHall$Catches" "count" "I" "JugglingHall") (by decide +kernel) rfl) (fun _ h9 => h9) rfl dX10_cycle_36 ?_
        refine a_icmp_lt (u := y.toInt) (v := cnt_19.toInt) (tgt := 44) hx hb dX10_cycle_39 (by decide) (rfl) (rfl) (fun c_20 => ?_) (fun c_20 => ?_)
        · refine lv_aload_n hx hb dX10_cycle_44 rfl (lv_at hl 1 rfl) ?_
          refine t_get (D := D) (L := L) (f := f_10) (ci := 10) (v := .ref (g 15)) (C := RX10) (T := TX10) (N := 8) hx hb hts (by decide +kernel) hown hK.1 hP (gm_10 hG) fb_11 rfl 4 (by decide) (hts (.fieldLink RX10 53 "JugglingHall" "catches" "LJugglingHall$Catches;") (by decide +kernel)) (fun _ h9 => h9) rfl dX10_cycle_45 ?_
          refine t_getN (D := D) (L := L) (f := f_10) (ci := 1) (v := .ref (g 37)) (C := RX1) (T := TX1) (N := 8) (host := "JugglingHall") hx hb hts (by decide +kernel) hown hK.1 hP (gm_15 hG) fg_19 rfl 3 (by decide) (hK.nw (.fieldLinkNest RX10 156 "JugglingHall$Catches" "firstCell" "[I" "JugglingHall") (by decide +kernel) rfl) (fun _ h9 => h9) rfl dX10_cycle_48 ?_
          refine lv_iload_n hx hb dX10_cycle_51 rfl (lv_at hl 3 rfl) ?_
          obtain ⟨c_21, fg_21⟩ := op_37 hI (gm_37 hG) (gs_37 hG)
          refine t_iald (L := L) (f := f_10) (y := c_21) (u := y.toInt) hx hb hK.1 hP (gm_37 hG) 0 fg_21 rfl dX10_cycle_52 (rfl) (by omega) (fun z_22 q_22 e_22 => ?_)
          refine lv_istore (lv' := [(5, .int z_22), (4, .ref r_4), (0, .ref (g 10)), (1, .int x), (2, .int y), (3, .int v)]) hx hb dX10_cycle_53 hl (by decide) rfl (fun ls hl => ?_)
          refine lv_iload_n hx hb dX10_cycle_55 rfl (lv_at hl 5 rfl) ?_
          have hu_23 : v.toInt = v.toInt := rfl
          rcases (show (v.toInt < 0 ∨ 5 < v.toInt) ∨ (v.toInt = 0) ∨ (v.toInt = 1) ∨ (v.toInt = 2) ∨ (v.toInt = 3) ∨ (v.toInt = 4) ∨ (v.toInt = 5) by omega) with c_23 | c_23 | c_23 | c_23 | c_23 | c_23 | c_23
          · refine lv_tableOut (tgt := 155) hx hb dX10_cycle_56 (by omega) (by decide) ?_
            refine lv_iconst (v := (-1)) hx hb dX10_cycle_155 (by decide) ?_
            have hz_24 : (-1 : Int32).toInt = (-1) := by decide
            exact g_iret ((-1 : Int32), f_10) hx hb hr hlocks hS rfl (⟨hI, hF⟩) hP hD hQ (Nat.le_of_ble_eq_true rfl) (Nat.le_of_ble_eq_true rfl) dX10_cycle_156
          · refine lv_tableIn (off := 40) (tgt := 96) hx hb dX10_cycle_56 (by omega) (by omega) (by rw [show (v.toInt - 0).toNat = 0 by omega]; rfl) (by decide) ?_
            refine lv_aload_n hx hb dX10_cycle_96 rfl (lv_at hl 2 rfl) ?_
            refine t_get (D := D) (L := L) (f := f_10) (ci := 10) (v := .ref (g 15)) (C := RX10) (T := TX10) (N := 8) hx hb hts (by decide +kernel) hown hK.1 hP (gm_10 hG) fb_11 rfl 4 (by decide) (hts (.fieldLink RX10 53 "JugglingHall" "catches" "LJugglingHall$Catches;") (by decide +kernel)) (fun _ h9 => h9) rfl dX10_cycle_97 ?_
            refine t_getN (D := D) (L := L) (f := f_10) (ci := 1) (v := .ref (g 38)) (C := RX1) (T := TX1) (N := 8) (host := "JugglingHall") hx hb hts (by decide +kernel) hown hK.1 hP (gm_15 hG) fg_19 rfl 4 (by decide) (hK.nw (.fieldLinkNest RX10 160 "JugglingHall$Catches" "size" "[I" "JugglingHall") (by decide +kernel) rfl) (fun _ h9 => h9) rfl dX10_cycle_100 ?_
            refine lv_iload_n hx hb dX10_cycle_103 rfl (lv_at hl 4 rfl) ?_
            obtain ⟨c_25, fg_25⟩ := op_38 hI (gm_38 hG) (gs_38 hG)
            refine t_iald (L := L) (f := f_10) (y := c_25) (u := y.toInt) hx hb hK.1 hP (gm_38 hG) 0 fg_25 rfl dX10_cycle_104 (rfl) (by omega) (fun z_26 q_26 e_26 => ?_)
            exact g_iret (z_26, f_10) hx hb hr hlocks hS rfl (⟨hI, hF⟩) hP hD hQ (Nat.le_of_ble_eq_true rfl) (Nat.le_of_ble_eq_true rfl) dX10_cycle_105
          · refine lv_tableIn (off := 50) (tgt := 106) hx hb dX10_cycle_56 (by omega) (by omega) (by rw [show (v.toInt - 0).toNat = 1 by omega]; rfl) (by decide) ?_
            refine lv_aload_n hx hb dX10_cycle_106 rfl (lv_at hl 2 rfl) ?_
            refine t_get (D := D) (L := L) (f := f_10) (ci := 10) (v := .ref (g 15)) (C := RX10) (T := TX10) (N := 8) hx hb hts (by decide +kernel) hown hK.1 hP (gm_10 hG) fb_11 rfl 4 (by decide) (hts (.fieldLink RX10 53 "JugglingHall" "catches" "LJugglingHall$Catches;") (by decide +kernel)) (fun _ h9 => h9) rfl dX10_cycle_107 ?_
            refine t_getN (D := D) (L := L) (f := f_10) (ci := 1) (v := .ref (g 39)) (C := RX1) (T := TX1) (N := 8) (host := "JugglingHall") hx hb hts (by decide +kernel) hown hK.1 hP (gm_15 hG) fg_19 rfl 5 (by decide) (hK.nw (.fieldLinkNest RX10 163 "JugglingHall$Catches" "period" "[I" "JugglingHall") (by decide +kernel) rfl) (fun _ h9 => h9) rfl dX10_cycle_110 ?_
            refine lv_iload_n hx hb dX10_cycle_113 rfl (lv_at hl 4 rfl) ?_
            obtain ⟨c_27, fg_27⟩ := op_39 hI (gm_39 hG) (gs_39 hG)
            refine t_iald (L := L) (f := f_10) (y := c_27) (u := y.toInt) hx hb hK.1 hP (gm_39 hG) 0 fg_27 rfl dX10_cycle_114 (rfl) (by omega) (fun z_28 q_28 e_28 => ?_)
            exact g_iret (z_28, f_10) hx hb hr hlocks hS rfl (⟨hI, hF⟩) hP hD hQ (Nat.le_of_ble_eq_true rfl) (Nat.le_of_ble_eq_true rfl) dX10_cycle_115
          · refine lv_tableIn (off := 60) (tgt := 116) hx hb dX10_cycle_56 (by omega) (by omega) (by rw [show (v.toInt - 0).toNat = 2 by omega]; rfl) (by decide) ?_
            refine lv_aload hx hb dX10_cycle_116 (lv_at hl 1 rfl) ?_
            refine lv_aload_n hx hb dX10_cycle_118 rfl (lv_at hl 2 rfl) ?_
            refine t_get (D := D) (L := L) (f := f_10) (ci := 10) (v := .ref (g 15)) (C := RX10) (T := TX10) (N := 8) hx hb hts (by decide +kernel) hown hK.1 hP (gm_10 hG) fb_11 rfl 4 (by decide) (hts (.fieldLink RX10 53 "JugglingHall" "catches" "LJugglingHall$Catches;") (by decide +kernel)) (fun _ h9 => h9) rfl dX10_cycle_119 ?_
            refine t_getN (D := D) (L := L) (f := f_10) (ci := 1) (v := .ref (g 39)) (C := RX1) (T := TX1) (N := 8) (host := "JugglingHall") hx hb hts (by decide +kernel) hown hK.1 hP (gm_15 hG) fg_19 rfl 5 (by decide) (hK.nw (.fieldLinkNest RX10 163 "JugglingHall$Catches" "period" "[I" "JugglingHall") (by decide +kernel) rfl) (fun _ h9 => h9) rfl dX10_cycle_122 ?_
            refine lv_iload_n hx hb dX10_cycle_125 rfl (lv_at hl 4 rfl) ?_
            obtain ⟨c_29, fg_29⟩ := op_39 hI (gm_39 hG) (gs_39 hG)
            refine t_iald (L := L) (f := f_10) (y := c_29) (u := y.toInt) hx hb hK.1 hP (gm_39 hG) 0 fg_29 rfl dX10_cycle_126 (rfl) (by omega) (fun z_30 q_30 e_30 => ?_)
            refine roP (va_runV (As := [.int z_30]) (rest := []) ⟨hx, hb, hml, hown, hts⟩ (t_X5_perRound l D cI cR cM _  hj hG hI m_6 s_6 fb_13 fb_14 ) (cwV 1 hts gX10_cycle_X5_perRound rfl rfl rfl (by decide +kernel) ⟨Nat.le_of_ble_eq_true rfl, Nat.le_of_ble_eq_true rfl⟩) (pre_T hK hP hD m_6 fb_13 rfl) rfl rfl hl.1 rfl (lv_room (Nat.le_of_ble_eq_true rfl)) dX10_cycle_127 ⟨Nat.le_of_ble_eq_true rfl, Nat.le_of_ble_eq_true rfl⟩) hS hA hP (fun r_31 H locs hw hP hS => ?_)
            exact g_iret (r_31, f_10) hx hb hr hlocks hS rfl (⟨hI, hF⟩) hP hD hQ (Nat.le_of_ble_eq_true rfl) (Nat.le_of_ble_eq_true rfl) dX10_cycle_130
          · refine lv_tableIn (off := 75) (tgt := 131) hx hb dX10_cycle_56 (by omega) (by omega) (by rw [show (v.toInt - 0).toNat = 3 by omega]; rfl) (by decide) ?_
            refine lv_aload hx hb dX10_cycle_131 (lv_at hl 1 rfl) ?_
            refine lv_iload hx hb dX10_cycle_133 (lv_at hl 0 rfl) ?_
            refine roP (va_runV (As := [.int z_22]) (rest := []) ⟨hx, hb, hml, hown, hts⟩ (t_X5_beatOf l D cI cR cM _  hj hG hI m_6 s_6 fb_13 fb_14 ) (cwV 1 hts gX10_cycle_X5_beatOf rfl rfl rfl (by decide +kernel) ⟨Nat.le_of_ble_eq_true rfl, Nat.le_of_ble_eq_true rfl⟩) (pre_T hK hP hD m_6 fb_13 rfl) rfl rfl hl.1 rfl (lv_room (Nat.le_of_ble_eq_true rfl)) dX10_cycle_135 ⟨Nat.le_of_ble_eq_true rfl, Nat.le_of_ble_eq_true rfl⟩) hS hA hP (fun r_32 H locs hw hP hS => ?_)
            have h_32 : (0 ≤ z_22.toInt → 0 ≤ r_32.toInt ∧ r_32.toInt ≤ z_22.toInt) := hw
            exact g_iret (r_32, f_10) hx hb hr hlocks hS rfl (⟨hI, hF⟩) hP hD hQ (Nat.le_of_ble_eq_true rfl) (Nat.le_of_ble_eq_true rfl) dX10_cycle_138
          · refine lv_tableIn (off := 83) (tgt := 139) hx hb dX10_cycle_56 (by omega) (by omega) (by rw [show (v.toInt - 0).toNat = 4 by omega]; rfl) (by decide) ?_
            refine lv_aload hx hb dX10_cycle_139 (lv_at hl 1 rfl) ?_
            refine lv_iload hx hb dX10_cycle_141 (lv_at hl 0 rfl) ?_
            refine roP (va_runV (As := [.int z_22]) (rest := []) ⟨hx, hb, hml, hown, hts⟩ (t_X5_jugglerOf l D cI cR cM _  hj hG hI m_6 s_6 fb_13 fb_14 ) (cwV 1 hts gX10_cycle_X5_jugglerOf rfl rfl rfl (by decide +kernel) ⟨Nat.le_of_ble_eq_true rfl, Nat.le_of_ble_eq_true rfl⟩) (pre_T hK hP hD m_6 fb_13 rfl) rfl rfl hl.1 rfl (lv_room (Nat.le_of_ble_eq_true rfl)) dX10_cycle_143 ⟨Nat.le_of_ble_eq_true rfl, Nat.le_of_ble_eq_true rfl⟩) hS hA hP (fun r_33 H locs hw hP hS => ?_)
            have h_33 : (0 ≤ z_22.toInt → 0 ≤ r_33.toInt ∧ r_33.toInt < (jn : Int)) := hw
            exact g_iret (r_33, f_10) hx hb hr hlocks hS rfl (⟨hI, hF⟩) hP hD hQ (Nat.le_of_ble_eq_true rfl) (Nat.le_of_ble_eq_true rfl) dX10_cycle_146
          · refine lv_tableIn (off := 91) (tgt := 147) hx hb dX10_cycle_56 (by omega) (by omega) (by rw [show (v.toInt - 0).toNat = 5 by omega]; rfl) (by decide) ?_
            refine lv_aload hx hb dX10_cycle_147 (lv_at hl 1 rfl) ?_
            refine lv_iload hx hb dX10_cycle_149 (lv_at hl 0 rfl) ?_
            refine roP (va_runV (As := [.int z_22]) (rest := []) ⟨hx, hb, hml, hown, hts⟩ (t_X5_numberOf l D cI cR cM _  hj hG hI m_6 s_6 fb_13 fb_14 ) (cwV 1 hts gX10_cycle_X5_numberOf rfl rfl rfl (by decide +kernel) ⟨Nat.le_of_ble_eq_true rfl, Nat.le_of_ble_eq_true rfl⟩) (pre_T hK hP hD m_6 fb_13 rfl) rfl rfl hl.1 rfl (lv_room (Nat.le_of_ble_eq_true rfl)) dX10_cycle_151 ⟨Nat.le_of_ble_eq_true rfl, Nat.le_of_ble_eq_true rfl⟩) hS hA hP (fun r_34 H locs hw hP hS => ?_)
            exact g_iret (r_34, f_10) hx hb hr hlocks hS rfl (⟨hI, hF⟩) hP hD hQ (Nat.le_of_ble_eq_true rfl) (Nat.le_of_ble_eq_true rfl) dX10_cycle_154
        · refine lv_iconst (v := (-1)) hx hb dX10_cycle_42 (by decide) ?_
          have hz_35 : (-1 : Int32).toInt = (-1) := by decide
          exact g_iret ((-1 : Int32), f_10) hx hb hr hlocks hS rfl (⟨hI, hF⟩) hP hD hQ (Nat.le_of_ble_eq_true rfl) (Nat.le_of_ble_eq_true rfl) dX10_cycle_43
set_option maxRecDepth 100000 in
set_option maxHeartbeats 4000000 in
theorem t_X10_cycleOf (l : Launch) (D : va_G) (cI cR cM : ClassId) (sz : Nat) {jn : Nat} {g : Nat → Nat} {L : List Nat} {S : Sg} {f : Nat → va_E} {x y v k : Int32}  (hj : 1 ≤ jn ∧ jn ≤ 3) (hG : SG g L S) (hI : IN jn cI cR cM g L S f)  : Met l yX10_cycleOf wsX10_cycleOf ({ frames := 5, cells := 0, slots := 0, locals := 109 }) (P0 D cI cR cM [.ref (g 10), .int x, .int y, .int v, .int k] sz (va_pl L f)) (QG (S := Int32 × (Nat → va_E)) (fun u => some (.int u.1)) (fun u => va_pl L u.2) (fun u => IN jn cI cR cM g L S u.2 ∧ FR S [15, 27, 35, 36, 37, 38, 39] f u.2) D (va_A (va_pl L f) sz)) 0 0 (va_A (va_pl L f) sz) := by
  refine go (cc := cX10_cycleOf) (maxL := 7) (ret := (some .int)) (by decide +kernel) rfl (Nat.le_of_ble_eq_true rfl) ?_
  intro p e s m below meth c ls args Q hQ hsz hx hb hr hml hts hown hlocks hnm hP hK hD hl
  subst hsz
  have hD := hD.self (sz := s.heap.size)
  generalize hAe : va_A (va_pl L f) s.heap.size = A at hD hQ
  have hA : ∀ q, s.heap.size ≤ q → A q := fun q h => by rw [← hAe]; exact Or.inr h
  have hS : va_S A s.heap s.heap [] := va_S.rf
  have hF : FR S [15, 27, 35, 36, 37, 38, 39] f f := FR_rf
  have hl : lv_has ls 7 [(0, .ref (g 10)), (1, .int x), (2, .int y), (3, .int v), (4, .int k)] := hl
  refine lv_aload_n hx hb dX10_cycleOf_0 rfl (lv_at hl 0 rfl) ?_
  have fg_1 := op_10 hI (gm_10 hG) (gs_10 hG)
  refine t_get (D := D) (L := L) (f := f) (ci := 10) (v := .ref (g 12)) (C := RX10) (T := TX10) (N := 8) hx hb hts (by decide +kernel) hown hK.1 hP (gm_10 hG) fg_1 rfl 2 (by decide) (hts (.fieldLink RX10 32 "JugglingHall" "book" "LJugglingHall$Book;") (by decide +kernel)) (fun _ h9 => h9) rfl dX10_cycleOf_1 ?_
  refine lv_iload_n hx hb dX10_cycleOf_4 rfl (lv_at hl 1 rfl) ?_
  obtain ⟨tm_2, lk_2, fg_2, iv0_2, iv1_2, iv2_2⟩ := op_12 hI (gm_12 hG) (gs_12 hG)
  refine roR (va_runV (As := [.int x]) (rest := []) ⟨hx, hb, hml, hown, hts⟩ (t_X0_rowSeen l D cI cR cM _  hj hG hI  ) (cwV 1 hts gX10_cycleOf_X0_rowSeen rfl rfl rfl (by decide +kernel) ⟨Nat.le_of_ble_eq_true rfl, Nat.le_of_ble_eq_true rfl⟩) (pre_T hK hP hD (gm_12 hG) fg_2 rfl) rfl rfl hl.1 rfl (lv_room (Nat.le_of_ble_eq_true rfl)) dX10_cycleOf_5 ⟨Nat.le_of_ble_eq_true rfl, Nat.le_of_ble_eq_true rfl⟩) hS hA hP (fun w_3 H locs hw hP hS => ?_)
  have ho_3 : (∀ z, w_3 = some z → ∃ p n, isRow L S z p n) := hw
  rcases x_opt w_3 with e_4 | ⟨r_4, e_4⟩
  · subst e_4
    refine W.eq (g2 := F0 m 8 ls [.null]) rfl ?_
    have hl : lv_has ls 7 [(0, .ref (g 10)), (1, .int x), (2, .int y), (3, .int v), (4, .int k)] := hl
    refine lv_astoreN (lv' := [(5, .null), (0, .ref (g 10)), (1, .int x), (2, .int y), (3, .int v), (4, .int k)]) hx hb dX10_cycleOf_8 hl (by decide) rfl (fun ls hl => ?_)
    refine lv_aloadN hx hb dX10_cycleOf_10 (lv_at hl 0 rfl) ?_
    refine lv_ifnullN (tgt := 27) hx hb dX10_cycleOf_12 (by decide) ?_
    refine lv_iconst (v := (-1)) hx hb dX10_cycleOf_27 (by decide) ?_
    have hz_5 : (-1 : Int32).toInt = (-1) := by decide
    exact g_iret ((-1 : Int32), f) hx hb hr hlocks hS rfl (⟨hI, hF⟩) hP hD hQ (Nat.le_of_ble_eq_true rfl) (Nat.le_of_ble_eq_true rfl) dX10_cycleOf_28
  · subst e_4
    refine W.eq (g2 := F0 m 8 ls [.ref r_4]) rfl ?_
    have hl : lv_has ls 7 [(0, .ref (g 10)), (1, .int x), (2, .int y), (3, .int v), (4, .int k)] := hl
    obtain ⟨p_6, n_6, m_6, s_6⟩ := ho_3 _ rfl
    refine lv_astore (lv' := [(5, .ref r_4), (0, .ref (g 10)), (1, .int x), (2, .int y), (3, .int v), (4, .int k)]) hx hb dX10_cycleOf_8 hl (by decide) rfl (fun ls hl => ?_)
    refine lv_aload hx hb dX10_cycleOf_10 (lv_at hl 0 rfl) ?_
    refine lv_ifnull hx hb dX10_cycleOf_12 ?_
    refine lv_aload_n hx hb dX10_cycleOf_15 rfl (lv_at hl 1 rfl) ?_
    refine t_get (D := D) (L := L) (f := f) (ci := 10) (v := .ref (g 15)) (C := RX10) (T := TX10) (N := 8) hx hb hts (by decide +kernel) hown hK.1 hP (gm_10 hG) fg_1 rfl 4 (by decide) (hts (.fieldLink RX10 53 "JugglingHall" "catches" "LJugglingHall$Catches;") (by decide +kernel)) (fun _ h9 => h9) rfl dX10_cycleOf_16 ?_
    refine lv_aload hx hb dX10_cycleOf_19 (lv_at hl 0 rfl) ?_
    obtain ⟨cnt_7, rw_7, fg_7, iv0_7, iv1_7, iv2_7⟩ := op_15 hI (gm_15 hG) (gs_15 hG)
    obtain ⟨len_8, fg_8, v1_8, v2_8, v3_8, mp_8, sp_8⟩ := op_0 hI m_6 s_6
    obtain ⟨w1_8, w2_8, w3_8, w4_8, w5_8⟩ := lenw hj v1_8 v2_8 v3_8
    obtain ⟨c_9, fg_9, iv0_9⟩ := op_1 hI mp_8 sp_8
    refine call_p (va_runV (As := [.ref r_4]) (rest := []) ⟨hx, hb, hml, hown, hts⟩ (t_X1_lead l D cI cR cM _  hj hG hI m_6 s_6 fg_8 fg_9 ) (cwV 1 hts gX10_cycleOf_X1_lead rfl rfl rfl (by decide +kernel) ⟨Nat.le_of_ble_eq_true rfl, Nat.le_of_ble_eq_true rfl⟩) (pre_T hK hP hD (gm_15 hG) fg_7 rfl) rfl rfl hl.1 rfl (lv_room (Nat.le_of_ble_eq_true rfl)) dX10_cycleOf_21 ⟨Nat.le_of_ble_eq_true rfl, Nat.le_of_ble_eq_true rfl⟩) hD hS hA (fun u_10 H locs hw hP hD hS => ?_)
    obtain ⟨r_10, f_10⟩ := u_10
    obtain ⟨hI, hF_10, hc_10, h01_10⟩ : IN jn cI cR cM g L S f_10 ∧ FR S [15, 27, 35, 36, 37, 38, 39] f f_10 ∧ (r_10.toInt = 1 → ∃ k9 : Int32, f_10 (g 15) = .inr (1, [.ref (g 35), .ref (g 27), .ref (g 36), .ref (g 37), .ref (g 38), .ref (g 39), .int k9, va_rf (some r_4)]) ∧ 0 ≤ k9.toInt ∧ k9.toInt ≤ 144) ∧ (r_10.toInt = 0 ∨ r_10.toInt = 1) := hw
    have hP : va_P D vwCl (va_pl L f_10) H := hP
    have hD : va_D A (va_pl L f_10) := hD
    have hF := FR_tr hF hF_10 (by decide)
    have fb_11 : f_10 (g 10) = .inr (10, [.int (nI jn), .ref (g 11), .ref (g 12), .ref (g 13), .ref (g 15), .ref (g 16), .ref (g 17), .ref (g 18)]) := FR_at hF_10 (gs_10 hG) (show (10 : Nat) ∉ ([15, 27, 35, 36, 37, 38, 39] : List Nat) by decide) fg_1
    have fb_12 : f_10 (g 12) = .inr (0, [.ref (g 20), .ref (g 21), .int tm_2, .int lk_2]) := FR_at hF_10 (gs_12 hG) (show (12 : Nat) ∉ ([15, 27, 35, 36, 37, 38, 39] : List Nat) by decide) fg_2
    have fb_13 : f_10 r_4 = .inr (5, [.int (nI jn), .int (nI (2 * jn)), .ref p_6, .int len_8]) := FR_at hF_10 s_6 (show (0 : Nat) ∉ ([15, 27, 35, 36, 37, 38, 39] : List Nat) by decide) fg_8
    have fb_14 : f_10 p_6 = .inl (cI, n_6, .inl c_9) := FR_at hF_10 sp_8 (show (1 : Nat) ∉ ([15, 27, 35, 36, 37, 38, 39] : List Nat) by decide) fg_9
    refine a_if_ne (u := r_10.toInt) (tgt := 29) hx hb dX10_cycleOf_24 (by decide) (rfl) (fun c_15 => ?_) (fun c_15 => ?_)
    · refine lv_aload hx hb dX10_cycleOf_29 (lv_at hl 0 rfl) ?_
      refine lv_iload_n hx hb dX10_cycleOf_31 rfl (lv_at hl 3 rfl) ?_
      refine lv_iload_n hx hb dX10_cycleOf_32 rfl (lv_at hl 4 rfl) ?_
      refine lv_iload hx hb dX10_cycleOf_33 (lv_at hl 5 rfl) ?_
      refine roP (va_runV (As := [.int y, .int v, .int k]) (rest := []) ⟨hx, hb, hml, hown, hts⟩ (t_X5_cellAt l D cI cR cM _  hj hG hI m_6 s_6 fb_13 fb_14 ) (cwV 3 hts gX10_cycleOf_X5_cellAt rfl rfl rfl (by decide +kernel) ⟨Nat.le_of_ble_eq_true rfl, Nat.le_of_ble_eq_true rfl⟩) (pre_T hK hP hD m_6 fb_13 rfl) rfl rfl hl.1 rfl (lv_room (Nat.le_of_ble_eq_true rfl)) dX10_cycleOf_35 ⟨Nat.le_of_ble_eq_true rfl, Nat.le_of_ble_eq_true rfl⟩) hS hA hP (fun r_16 H locs hw hP hS => ?_)
      have h_16 : (r_16.toInt = -1 ∨ (0 ≤ r_16.toInt ∧ r_16.toInt < len_8.toInt * (2 * (jn : Int)))) := hw
      refine lv_istore (lv' := [(6, .int r_16), (5, .ref r_4), (0, .ref (g 10)), (1, .int x), (2, .int y), (3, .int v), (4, .int k)]) hx hb dX10_cycleOf_38 hl (by decide) rfl (fun ls hl => ?_)
      refine lv_iload hx hb dX10_cycleOf_40 (lv_at hl 0 rfl) ?_
      refine lv_iconst (v := (-1)) hx hb dX10_cycleOf_42 (by decide) ?_
      refine a_icmp_ne (u := r_16.toInt) (v := (-1)) (tgt := 50) hx hb dX10_cycleOf_43 (by decide) (rfl) (by decide) (fun c_17 => ?_) (fun c_17 => ?_)
      · refine lv_aload_n hx hb dX10_cycleOf_50 rfl (lv_at hl 2 rfl) ?_
        refine t_get (D := D) (L := L) (f := f_10) (ci := 10) (v := .ref (g 15)) (C := RX10) (T := TX10) (N := 8) hx hb hts (by decide +kernel) hown hK.1 hP (gm_10 hG) fb_11 rfl 4 (by decide) (hts (.fieldLink RX10 53 "JugglingHall" "catches" "LJugglingHall$Catches;") (by decide +kernel)) (fun _ h9 => h9) rfl dX10_cycleOf_51 ?_
        obtain ⟨cnt_18, rw_18, fg_18, iv0_18, iv1_18, iv2_18⟩ := op_15 hI (gm_15 hG) (gs_15 hG)
        refine t_getN (D := D) (L := L) (f := f_10) (ci := 1) (v := .ref (g 36)) (C := RX1) (T := TX1) (N := 8) (host := "JugglingHall") hx hb hts (by decide +kernel) hown hK.1 hP (gm_15 hG) fg_18 rfl 2 (by decide) (hK.nw (.fieldLinkNest RX10 172 "JugglingHall$Catches" "cycleAt" "[I" "JugglingHall") (by decide +kernel) rfl) (fun _ h9 => h9) rfl dX10_cycleOf_54 ?_
        refine lv_iload hx hb dX10_cycleOf_57 (lv_at hl 0 rfl) ?_
        obtain ⟨c_19, fg_19⟩ := op_36 hI (gm_36 hG) (gs_36 hG)
        refine t_iald (L := L) (f := f_10) (y := c_19) (u := r_16.toInt) hx hb hK.1 hP (gm_36 hG) 0 fg_19 rfl dX10_cycleOf_59 (rfl) (by omega) (fun z_20 q_20 e_20 => ?_)
        exact g_iret (z_20, f_10) hx hb hr hlocks hS rfl (⟨hI, hF⟩) hP hD hQ (Nat.le_of_ble_eq_true rfl) (Nat.le_of_ble_eq_true rfl) dX10_cycleOf_60
      · refine lv_iconst (v := (-1)) hx hb dX10_cycleOf_46 (by decide) ?_
        refine lv_goto (tgt := 60) hx hb dX10_cycleOf_47 (by decide) ?_
        have hz_21 : (-1 : Int32).toInt = (-1) := by decide
        exact g_iret ((-1 : Int32), f_10) hx hb hr hlocks hS rfl (⟨hI, hF⟩) hP hD hQ (Nat.le_of_ble_eq_true rfl) (Nat.le_of_ble_eq_true rfl) dX10_cycleOf_60
    · refine lv_iconst (v := (-1)) hx hb dX10_cycleOf_27 (by decide) ?_
      have hz_22 : (-1 : Int32).toInt = (-1) := by decide
      exact g_iret ((-1 : Int32), f_10) hx hb hr hlocks hS rfl (⟨hI, hF⟩) hP hD hQ (Nat.le_of_ble_eq_true rfl) (Nat.le_of_ble_eq_true rfl) dX10_cycleOf_28
set_option maxRecDepth 100000 in
set_option maxHeartbeats 4000000 in
theorem t_X10_caught (l : Launch) (D : va_G) (cI cR cM : ClassId) (sz : Nat) {jn : Nat} {g : Nat → Nat} {L : List Nat} {S : Sg} {f : Nat → va_E} {x y v k t : Int32}  (hj : 1 ≤ jn ∧ jn ≤ 3) (hG : SG g L S) (hI : IN jn cI cR cM g L S f)  : Met l yX10_caught wsX10_caught ({ frames := 5, cells := 0, slots := 0, locals := 109 }) (P0 D cI cR cM [.ref (g 10), .int x, .int y, .int v, .int k, .int t] sz (va_pl L f)) (QG (S := Int32 × (Nat → va_E)) (fun u => some (.int u.1)) (fun u => va_pl L u.2) (fun u => IN jn cI cR cM g L S u.2 ∧ FR S [15, 27, 35, 36, 37, 38, 39] f u.2) D (va_A (va_pl L f) sz)) 0 0 (va_A (va_pl L f) sz) := by
  refine go (cc := cX10_caught) (maxL := 10) (ret := (some .int)) (by decide +kernel) rfl (Nat.le_of_ble_eq_true rfl) ?_
  intro p e s m below meth c ls args Q hQ hsz hx hb hr hml hts hown hlocks hnm hP hK hD hl
  subst hsz
  have hD := hD.self (sz := s.heap.size)
  generalize hAe : va_A (va_pl L f) s.heap.size = A at hD hQ
  have hA : ∀ q, s.heap.size ≤ q → A q := fun q h => by rw [← hAe]; exact Or.inr h
  have hS : va_S A s.heap s.heap [] := va_S.rf
  have hF : FR S [15, 27, 35, 36, 37, 38, 39] f f := FR_rf
  have hl : lv_has ls 10 [(0, .ref (g 10)), (1, .int x), (2, .int y), (3, .int v), (4, .int k), (5, .int t)] := hl
  refine lv_aload_n hx hb dX10_caught_0 rfl (lv_at hl 0 rfl) ?_
  have fg_1 := op_10 hI (gm_10 hG) (gs_10 hG)
  refine t_get (D := D) (L := L) (f := f) (ci := 10) (v := .ref (g 12)) (C := RX10) (T := TX10) (N := 8) hx hb hts (by decide +kernel) hown hK.1 hP (gm_10 hG) fg_1 rfl 2 (by decide) (hts (.fieldLink RX10 32 "JugglingHall" "book" "LJugglingHall$Book;") (by decide +kernel)) (fun _ h9 => h9) rfl dX10_caught_1 ?_
  refine lv_iload_n hx hb dX10_caught_4 rfl (lv_at hl 1 rfl) ?_
  obtain ⟨tm_2, lk_2, fg_2, iv0_2, iv1_2, iv2_2⟩ := op_12 hI (gm_12 hG) (gs_12 hG)
  refine roR (va_runV (As := [.int x]) (rest := []) ⟨hx, hb, hml, hown, hts⟩ (t_X0_rowSeen l D cI cR cM _  hj hG hI  ) (cwV 1 hts gX10_caught_X0_rowSeen rfl rfl rfl (by decide +kernel) ⟨Nat.le_of_ble_eq_true rfl, Nat.le_of_ble_eq_true rfl⟩) (pre_T hK hP hD (gm_12 hG) fg_2 rfl) rfl rfl hl.1 rfl (lv_room (Nat.le_of_ble_eq_true rfl)) dX10_caught_5 ⟨Nat.le_of_ble_eq_true rfl, Nat.le_of_ble_eq_true rfl⟩) hS hA hP (fun w_3 H locs hw hP hS => ?_)
  have ho_3 : (∀ z, w_3 = some z → ∃ p n, isRow L S z p n) := hw
  rcases x_opt w_3 with e_4 | ⟨r_4, e_4⟩
  · subst e_4
    refine W.eq (g2 := F0 m 8 ls [.null]) rfl ?_
    have hl : lv_has ls 10 [(0, .ref (g 10)), (1, .int x), (2, .int y), (3, .int v), (4, .int k), (5, .int t)] := hl
    refine lv_astoreN (lv' := [(6, .null), (0, .ref (g 10)), (1, .int x), (2, .int y), (3, .int v), (4, .int k), (5, .int t)]) hx hb dX10_caught_8 hl (by decide) rfl (fun ls hl => ?_)
    refine lv_aloadN hx hb dX10_caught_10 (lv_at hl 0 rfl) ?_
    refine lv_ifnullN (tgt := 38) hx hb dX10_caught_12 (by decide) ?_
    refine lv_iconst (v := (-1)) hx hb dX10_caught_38 (by decide) ?_
    have hz_5 : (-1 : Int32).toInt = (-1) := by decide
    exact g_iret ((-1 : Int32), f) hx hb hr hlocks hS rfl (⟨hI, hF⟩) hP hD hQ (Nat.le_of_ble_eq_true rfl) (Nat.le_of_ble_eq_true rfl) dX10_caught_39
  · subst e_4
    refine W.eq (g2 := F0 m 8 ls [.ref r_4]) rfl ?_
    have hl : lv_has ls 10 [(0, .ref (g 10)), (1, .int x), (2, .int y), (3, .int v), (4, .int k), (5, .int t)] := hl
    obtain ⟨p_6, n_6, m_6, s_6⟩ := ho_3 _ rfl
    refine lv_astore (lv' := [(6, .ref r_4), (0, .ref (g 10)), (1, .int x), (2, .int y), (3, .int v), (4, .int k), (5, .int t)]) hx hb dX10_caught_8 hl (by decide) rfl (fun ls hl => ?_)
    refine lv_aload hx hb dX10_caught_10 (lv_at hl 0 rfl) ?_
    refine lv_ifnull hx hb dX10_caught_12 ?_
    refine lv_iload_n hx hb dX10_caught_15 rfl (lv_at hl 3 rfl) ?_
    refine a_if_lt (u := y.toInt) (tgt := 38) hx hb dX10_caught_16 (by decide) (rfl) (fun c_7 => ?_) (fun c_7 => ?_)
    · refine lv_iconst (v := (-1)) hx hb dX10_caught_38 (by decide) ?_
      have hz_8 : (-1 : Int32).toInt = (-1) := by decide
      exact g_iret ((-1 : Int32), f) hx hb hr hlocks hS rfl (⟨hI, hF⟩) hP hD hQ (Nat.le_of_ble_eq_true rfl) (Nat.le_of_ble_eq_true rfl) dX10_caught_39
    · refine lv_iload_n hx hb dX10_caught_19 rfl (lv_at hl 3 rfl) ?_
      refine lv_sipush (v := 999) hx hb dX10_caught_20 (by decide) ?_
      refine a_icmp_gt (u := y.toInt) (v := 999) (tgt := 38) hx hb dX10_caught_23 (by decide) (rfl) (by decide) (fun c_9 => ?_) (fun c_9 => ?_)
      · refine lv_iconst (v := (-1)) hx hb dX10_caught_38 (by decide) ?_
        have hz_10 : (-1 : Int32).toInt = (-1) := by decide
        exact g_iret ((-1 : Int32), f) hx hb hr hlocks hS rfl (⟨hI, hF⟩) hP hD hQ (Nat.le_of_ble_eq_true rfl) (Nat.le_of_ble_eq_true rfl) dX10_caught_39
      · refine lv_aload_n hx hb dX10_caught_26 rfl (lv_at hl 1 rfl) ?_
        refine t_get (D := D) (L := L) (f := f) (ci := 10) (v := .ref (g 15)) (C := RX10) (T := TX10) (N := 8) hx hb hts (by decide +kernel) hown hK.1 hP (gm_10 hG) fg_1 rfl 4 (by decide) (hts (.fieldLink RX10 53 "JugglingHall" "catches" "LJugglingHall$Catches;") (by decide +kernel)) (fun _ h9 => h9) rfl dX10_caught_27 ?_
        refine lv_aload hx hb dX10_caught_30 (lv_at hl 0 rfl) ?_
        obtain ⟨cnt_11, rw_11, fg_11, iv0_11, iv1_11, iv2_11⟩ := op_15 hI (gm_15 hG) (gs_15 hG)
        obtain ⟨len_12, fg_12, v1_12, v2_12, v3_12, mp_12, sp_12⟩ := op_0 hI m_6 s_6
        obtain ⟨w1_12, w2_12, w3_12, w4_12, w5_12⟩ := lenw hj v1_12 v2_12 v3_12
        obtain ⟨c_13, fg_13, iv0_13⟩ := op_1 hI mp_12 sp_12
        refine call_p (va_runV (As := [.ref r_4]) (rest := []) ⟨hx, hb, hml, hown, hts⟩ (t_X1_lead l D cI cR cM _  hj hG hI m_6 s_6 fg_12 fg_13 ) (cwV 1 hts gX10_caught_X1_lead rfl rfl rfl (by decide +kernel) ⟨Nat.le_of_ble_eq_true rfl, Nat.le_of_ble_eq_true rfl⟩) (pre_T hK hP hD (gm_15 hG) fg_11 rfl) rfl rfl hl.1 rfl (lv_room (Nat.le_of_ble_eq_true rfl)) dX10_caught_32 ⟨Nat.le_of_ble_eq_true rfl, Nat.le_of_ble_eq_true rfl⟩) hD hS hA (fun u_14 H locs hw hP hD hS => ?_)
        obtain ⟨r_14, f_14⟩ := u_14
        obtain ⟨hI, hF_14, hc_14, h01_14⟩ : IN jn cI cR cM g L S f_14 ∧ FR S [15, 27, 35, 36, 37, 38, 39] f f_14 ∧ (r_14.toInt = 1 → ∃ k9 : Int32, f_14 (g 15) = .inr (1, [.ref (g 35), .ref (g 27), .ref (g 36), .ref (g 37), .ref (g 38), .ref (g 39), .int k9, va_rf (some r_4)]) ∧ 0 ≤ k9.toInt ∧ k9.toInt ≤ 144) ∧ (r_14.toInt = 0 ∨ r_14.toInt = 1) := hw
        have hP : va_P D vwCl (va_pl L f_14) H := hP
        have hD : va_D A (va_pl L f_14) := hD
        have hF := FR_tr hF hF_14 (by decide)
        have fb_15 : f_14 (g 10) = .inr (10, [.int (nI jn), .ref (g 11), .ref (g 12), .ref (g 13), .ref (g 15), .ref (g 16), .ref (g 17), .ref (g 18)]) := FR_at hF_14 (gs_10 hG) (show (10 : Nat) ∉ ([15, 27, 35, 36, 37, 38, 39] : List Nat) by decide) fg_1
        have fb_16 : f_14 (g 12) = .inr (0, [.ref (g 20), .ref (g 21), .int tm_2, .int lk_2]) := FR_at hF_14 (gs_12 hG) (show (12 : Nat) ∉ ([15, 27, 35, 36, 37, 38, 39] : List Nat) by decide) fg_2
        have fb_17 : f_14 r_4 = .inr (5, [.int (nI jn), .int (nI (2 * jn)), .ref p_6, .int len_12]) := FR_at hF_14 s_6 (show (0 : Nat) ∉ ([15, 27, 35, 36, 37, 38, 39] : List Nat) by decide) fg_12
        have fb_18 : f_14 p_6 = .inl (cI, n_6, .inl c_13) := FR_at hF_14 sp_12 (show (1 : Nat) ∉ ([15, 27, 35, 36, 37, 38, 39] : List Nat) by decide) fg_13
        refine a_if_ne (u := r_14.toInt) (tgt := 40) hx hb dX10_caught_35 (by decide) (rfl) (fun c_19 => ?_) (fun c_19 => ?_)
        · refine lv_aload hx hb dX10_caught_40 (lv_at hl 0 rfl) ?_
          refine lv_aload hx hb dX10_caught_42 (lv_at hl 0 rfl) ?_
          refine lv_iload_n hx hb dX10_caught_44 rfl (lv_at hl 3 rfl) ?_
          refine roP (va_runV (As := [.int y]) (rest := [.ref r_4]) ⟨hx, hb, hml, hown, hts⟩ (t_X5_beatInRound l D cI cR cM _  hj hG hI m_6 s_6 fb_17 fb_18 ) (cwV 1 hts gX10_caught_X5_beatInRound rfl rfl rfl (by decide +kernel) ⟨Nat.le_of_ble_eq_true rfl, Nat.le_of_ble_eq_true rfl⟩) (pre_T hK hP hD m_6 fb_17 rfl) rfl rfl hl.1 rfl (lv_room (Nat.le_of_ble_eq_true rfl)) dX10_caught_45 ⟨Nat.le_of_ble_eq_true rfl, Nat.le_of_ble_eq_true rfl⟩) hS hA hP (fun r_20 H locs hw hP hS => ?_)
          have h_20 : (0 ≤ r_20.toInt ∧ (r_20.toInt < len_12.toInt ∨ r_20.toInt = 0)) := hw
          refine lv_iload_n hx hb dX10_caught_48 rfl (lv_at hl 4 rfl) ?_
          refine lv_iload hx hb dX10_caught_49 (lv_at hl 5 rfl) ?_
          refine roP (va_runV (As := [.int r_20, .int v, .int k]) (rest := []) ⟨hx, hb, hml, hown, hts⟩ (t_X5_cellAt l D cI cR cM _  hj hG hI m_6 s_6 fb_17 fb_18 ) (cwV 3 hts gX10_caught_X5_cellAt rfl rfl rfl (by decide +kernel) ⟨Nat.le_of_ble_eq_true rfl, Nat.le_of_ble_eq_true rfl⟩) (pre_T hK hP hD m_6 fb_17 rfl) rfl rfl hl.1 rfl (lv_room (Nat.le_of_ble_eq_true rfl)) dX10_caught_51 ⟨Nat.le_of_ble_eq_true rfl, Nat.le_of_ble_eq_true rfl⟩) hS hA hP (fun r_21 H locs hw hP hS => ?_)
          have h_21 : (r_21.toInt = -1 ∨ (0 ≤ r_21.toInt ∧ r_21.toInt < len_12.toInt * (2 * (jn : Int)))) := hw
          refine lv_istore (lv' := [(7, .int r_21), (6, .ref r_4), (0, .ref (g 10)), (1, .int x), (2, .int y), (3, .int v), (4, .int k), (5, .int t)]) hx hb dX10_caught_54 hl (by decide) rfl (fun ls hl => ?_)
          refine lv_iload hx hb dX10_caught_56 (lv_at hl 0 rfl) ?_
          refine lv_iconst (v := (-1)) hx hb dX10_caught_58 (by decide) ?_
          refine a_icmp_eq (u := r_21.toInt) (v := (-1)) (tgt := 72) hx hb dX10_caught_59 (by decide) (rfl) (by decide) (fun c_22 => ?_) (fun c_22 => ?_)
          · refine lv_iconst (v := (-1)) hx hb dX10_caught_72 (by decide) ?_
            have hz_23 : (-1 : Int32).toInt = (-1) := by decide
            exact g_iret ((-1 : Int32), f_14) hx hb hr hlocks hS rfl (⟨hI, hF⟩) hP hD hQ (Nat.le_of_ble_eq_true rfl) (Nat.le_of_ble_eq_true rfl) dX10_caught_73
          · refine lv_aload hx hb dX10_caught_62 (lv_at hl 1 rfl) ?_
            refine lv_iload hx hb dX10_caught_64 (lv_at hl 0 rfl) ?_
            refine roP (va_runV (As := [.int r_21]) (rest := []) ⟨hx, hb, hml, hown, hts⟩ (t_X5_isThrow l D cI cR cM _  hj hG hI m_6 s_6 fb_17 fb_18 ) (cwV 1 hts gX10_caught_X5_isThrow rfl rfl rfl (by decide +kernel) ⟨Nat.le_of_ble_eq_true rfl, Nat.le_of_ble_eq_true rfl⟩) (pre_T hK hP hD m_6 fb_17 rfl) rfl rfl hl.1 rfl (lv_room (Nat.le_of_ble_eq_true rfl)) dX10_caught_66 ⟨Nat.le_of_ble_eq_true rfl, Nat.le_of_ble_eq_true rfl⟩) hS hA hP (fun r_24 H locs hw hP hS => ?_)
            obtain ⟨h_24, h01_24⟩ : (r_24.toInt = 1 → 0 ≤ r_21.toInt ∧ r_21.toInt < (n_6 : Int) ∧ (c_13 r_21.toInt.toNat).toInt ≠ 0) ∧ (r_24.toInt = 0 ∨ r_24.toInt = 1) := hw
            refine a_if_ne (u := r_24.toInt) (tgt := 74) hx hb dX10_caught_69 (by decide) (rfl) (fun c_25 => ?_) (fun c_25 => ?_)
            · refine lv_iload hx hb dX10_caught_74 (lv_at hl 7 rfl) ?_
              refine lv_iconst (v := 3) hx hb dX10_caught_76 (by decide) ?_
              refine a_icmp_ne (u := t.toInt) (v := 3) (tgt := 91) hx hb dX10_caught_77 (by decide) (rfl) (by decide) (fun c_26 => ?_) (fun c_26 => ?_)
              · refine lv_aload_n hx hb dX10_caught_91 rfl (lv_at hl 2 rfl) ?_
                refine t_get (D := D) (L := L) (f := f_14) (ci := 10) (v := .ref (g 15)) (C := RX10) (T := TX10) (N := 8) hx hb hts (by decide +kernel) hown hK.1 hP (gm_10 hG) fb_15 rfl 4 (by decide) (hts (.fieldLink RX10 53 "JugglingHall" "catches" "LJugglingHall$Catches;") (by decide +kernel)) (fun _ h9 => h9) rfl dX10_caught_92 ?_
                obtain ⟨cnt_27, rw_27, fg_27, iv0_27, iv1_27, iv2_27⟩ := op_15 hI (gm_15 hG) (gs_15 hG)
                refine t_getN (D := D) (L := L) (f := f_14) (ci := 1) (v := .ref (g 27)) (C := RX1) (T := TX1) (N := 8) (host := "JugglingHall") hx hb hts (by decide +kernel) hown hK.1 hP (gm_15 hG) fg_27 rfl 1 (by decide) (hK.nw (.fieldLinkNest RX10 181 "JugglingHall$Catches" "source" "[I" "JugglingHall") (by decide +kernel) rfl) (fun _ h9 => h9) rfl dX10_caught_95 ?_
                refine lv_iload hx hb dX10_caught_98 (lv_at hl 0 rfl) ?_
                obtain ⟨c_28, fg_28, iv0_28⟩ := op_27 hI (gm_27 hG) (gs_27 hG)
                refine t_iald (L := L) (f := f_14) (y := c_28) (u := r_21.toInt) hx hb hK.1 hP (gm_27 hG) 0 fg_28 rfl dX10_caught_100 (rfl) (by omega) (fun z_29 q_29 e_29 => ?_)
                have a1_29 : -1 ≤ z_29.toInt ∧ z_29.toInt ≤ 143 := by rw [q_29]; exact iv0_28 r_21.toInt (by omega) (by omega)
                refine lv_istore (lv' := [(8, .int z_29), (7, .int r_21), (6, .ref r_4), (0, .ref (g 10)), (1, .int x), (2, .int y), (3, .int v), (4, .int k), (5, .int t)]) hx hb dX10_caught_101 hl (by decide) rfl (fun ls hl => ?_)
                refine lv_iload_n hx hb dX10_caught_103 rfl (lv_at hl 5 rfl) ?_
                refine lv_aload hx hb dX10_caught_104 (lv_at hl 2 rfl) ?_
                refine lv_iload hx hb dX10_caught_106 (lv_at hl 0 rfl) ?_
                refine roP (va_runV (As := [.int z_29]) (rest := [.int y]) ⟨hx, hb, hml, hown, hts⟩ (t_X5_height l D cI cR cM _  hj hG hI m_6 s_6 fb_17 fb_18 ) (cwV 1 hts gX10_caught_X5_height rfl rfl rfl (by decide +kernel) ⟨Nat.le_of_ble_eq_true rfl, Nat.le_of_ble_eq_true rfl⟩) (pre_T hK hP hD m_6 fb_17 rfl) rfl rfl hl.1 rfl (lv_room (Nat.le_of_ble_eq_true rfl)) dX10_caught_108 ⟨Nat.le_of_ble_eq_true rfl, Nat.le_of_ble_eq_true rfl⟩) hS hA hP (fun r_30 H locs hw hP hS => ?_)
                have h_30 : (0 ≤ r_30.toInt ∧ r_30.toInt ≤ 9) := hw
                refine a_isub (u := y.toInt) (v := r_30.toInt) hx hb dX10_caught_111 (rfl) (rfl) (by omega) (fun z_31 e_31 => ?_)
                refine lv_istore (lv' := [(9, .int z_31), (8, .int z_29), (7, .int r_21), (6, .ref r_4), (0, .ref (g 10)), (1, .int x), (2, .int y), (3, .int v), (4, .int k), (5, .int t)]) hx hb dX10_caught_112 hl (by decide) rfl (fun ls hl => ?_)
                refine lv_iload hx hb dX10_caught_114 (lv_at hl 0 rfl) ?_
                refine a_if_ge (u := (y.toInt - r_30.toInt)) (tgt := 121) hx hb dX10_caught_116 (by decide) (e_31) (fun c_32 => ?_) (fun c_32 => ?_)
                · refine lv_iload hx hb dX10_caught_121 (lv_at hl 9 rfl) ?_
                  have hu_33 : t.toInt = t.toInt := rfl
                  rcases (show (t.toInt < 0 ∨ 2 < t.toInt) ∨ (t.toInt = 0) ∨ (t.toInt = 1) ∨ (t.toInt = 2) by omega) with c_33 | c_33 | c_33 | c_33
                  · refine lv_tableOut (tgt := 167) hx hb dX10_caught_123 (by omega) (by decide) ?_
                    refine lv_iconst (v := (-1)) hx hb dX10_caught_167 (by decide) ?_
                    have hz_34 : (-1 : Int32).toInt = (-1) := by decide
                    exact g_iret ((-1 : Int32), f_14) hx hb hr hlocks hS rfl (⟨hI, hF⟩) hP hD hQ (Nat.le_of_ble_eq_true rfl) (Nat.le_of_ble_eq_true rfl) dX10_caught_168
                  · refine lv_tableIn (off := 25) (tgt := 148) hx hb dX10_caught_123 (by omega) (by omega) (by rw [show (t.toInt - 0).toNat = 0 by omega]; rfl) (by decide) ?_
                    refine lv_iload hx hb dX10_caught_148 (lv_at hl 0 rfl) ?_
                    exact g_iret (z_31, f_14) hx hb hr hlocks hS rfl (⟨hI, hF⟩) hP hD hQ (Nat.le_of_ble_eq_true rfl) (Nat.le_of_ble_eq_true rfl) dX10_caught_150
                  · refine lv_tableIn (off := 28) (tgt := 151) hx hb dX10_caught_123 (by omega) (by omega) (by rw [show (t.toInt - 0).toNat = 1 by omega]; rfl) (by decide) ?_
                    refine lv_aload hx hb dX10_caught_151 (lv_at hl 3 rfl) ?_
                    refine lv_iload hx hb dX10_caught_153 (lv_at hl 1 rfl) ?_
                    refine roP (va_runV (As := [.int z_29]) (rest := []) ⟨hx, hb, hml, hown, hts⟩ (t_X5_jugglerOf l D cI cR cM _  hj hG hI m_6 s_6 fb_17 fb_18 ) (cwV 1 hts gX10_caught_X5_jugglerOf rfl rfl rfl (by decide +kernel) ⟨Nat.le_of_ble_eq_true rfl, Nat.le_of_ble_eq_true rfl⟩) (pre_T hK hP hD m_6 fb_17 rfl) rfl rfl hl.1 rfl (lv_room (Nat.le_of_ble_eq_true rfl)) dX10_caught_155 ⟨Nat.le_of_ble_eq_true rfl, Nat.le_of_ble_eq_true rfl⟩) hS hA hP (fun r_35 H locs hw hP hS => ?_)
                    have h_35 : (0 ≤ z_29.toInt → 0 ≤ r_35.toInt ∧ r_35.toInt < (jn : Int)) := hw
                    exact g_iret (r_35, f_14) hx hb hr hlocks hS rfl (⟨hI, hF⟩) hP hD hQ (Nat.le_of_ble_eq_true rfl) (Nat.le_of_ble_eq_true rfl) dX10_caught_158
                  · refine lv_tableIn (off := 36) (tgt := 159) hx hb dX10_caught_123 (by omega) (by omega) (by rw [show (t.toInt - 0).toNat = 2 by omega]; rfl) (by decide) ?_
                    refine lv_aload hx hb dX10_caught_159 (lv_at hl 3 rfl) ?_
                    refine lv_iload hx hb dX10_caught_161 (lv_at hl 1 rfl) ?_
                    refine roP (va_runV (As := [.int z_29]) (rest := []) ⟨hx, hb, hml, hown, hts⟩ (t_X5_numberOf l D cI cR cM _  hj hG hI m_6 s_6 fb_17 fb_18 ) (cwV 1 hts gX10_caught_X5_numberOf rfl rfl rfl (by decide +kernel) ⟨Nat.le_of_ble_eq_true rfl, Nat.le_of_ble_eq_true rfl⟩) (pre_T hK hP hD m_6 fb_17 rfl) rfl rfl hl.1 rfl (lv_room (Nat.le_of_ble_eq_true rfl)) dX10_caught_163 ⟨Nat.le_of_ble_eq_true rfl, Nat.le_of_ble_eq_true rfl⟩) hS hA hP (fun r_36 H locs hw hP hS => ?_)
                    exact g_iret (r_36, f_14) hx hb hr hlocks hS rfl (⟨hI, hF⟩) hP hD hQ (Nat.le_of_ble_eq_true rfl) (Nat.le_of_ble_eq_true rfl) dX10_caught_166
                · refine lv_iconst (v := (-1)) hx hb dX10_caught_119 (by decide) ?_
                  have hz_37 : (-1 : Int32).toInt = (-1) := by decide
                  exact g_iret ((-1 : Int32), f_14) hx hb hr hlocks hS rfl (⟨hI, hF⟩) hP hD hQ (Nat.le_of_ble_eq_true rfl) (Nat.le_of_ble_eq_true rfl) dX10_caught_120
              · obtain ⟨kn_38, fc_38, ek_38, el_38⟩ := hc_14 (by omega)
                refine lv_aload_n hx hb dX10_caught_80 rfl (lv_at hl 2 rfl) ?_
                refine t_get (D := D) (L := L) (f := f_14) (ci := 10) (v := .ref (g 15)) (C := RX10) (T := TX10) (N := 8) hx hb hts (by decide +kernel) hown hK.1 hP (gm_10 hG) fb_15 rfl 4 (by decide) (hts (.fieldLink RX10 53 "JugglingHall" "catches" "LJugglingHall$Catches;") (by decide +kernel)) (fun _ h9 => h9) rfl dX10_caught_81 ?_
                refine lv_iload_n hx hb dX10_caught_84 rfl (lv_at hl 4 rfl) ?_
                refine lv_iload hx hb dX10_caught_85 (lv_at hl 0 rfl) ?_
                refine roP (va_runV (As := [.int y, .int r_21]) (rest := []) ⟨hx, hb, hml, hown, hts⟩ (t_X1_ballOf l D cI cR cM _  hj hG hI fc_38 m_6 s_6 fb_17 fb_18 (by first | assumption | omega) (by first | assumption | omega)) (cwV 2 hts gX10_caught_X1_ballOf rfl rfl rfl (by decide +kernel) ⟨Nat.le_of_ble_eq_true rfl, Nat.le_of_ble_eq_true rfl⟩) (pre_T hK hP hD (gm_15 hG) fc_38 rfl) rfl rfl hl.1 rfl (lv_room (Nat.le_of_ble_eq_true rfl)) dX10_caught_87 ⟨Nat.le_of_ble_eq_true rfl, Nat.le_of_ble_eq_true rfl⟩) hS hA hP (fun r_39 H locs hw hP hS => ?_)
                exact g_iret (r_39, f_14) hx hb hr hlocks hS rfl (⟨hI, hF⟩) hP hD hQ (Nat.le_of_ble_eq_true rfl) (Nat.le_of_ble_eq_true rfl) dX10_caught_90
            · refine lv_iconst (v := (-1)) hx hb dX10_caught_72 (by decide) ?_
              have hz_40 : (-1 : Int32).toInt = (-1) := by decide
              exact g_iret ((-1 : Int32), f_14) hx hb hr hlocks hS rfl (⟨hI, hF⟩) hP hD hQ (Nat.le_of_ble_eq_true rfl) (Nat.le_of_ble_eq_true rfl) dX10_caught_73
        · refine lv_iconst (v := (-1)) hx hb dX10_caught_38 (by decide) ?_
          have hz_41 : (-1 : Int32).toInt = (-1) := by decide
          exact g_iret ((-1 : Int32), f_14) hx hb hr hlocks hS rfl (⟨hI, hF⟩) hP hD hQ (Nat.le_of_ble_eq_true rfl) (Nat.le_of_ble_eq_true rfl) dX10_caught_39
set_option maxRecDepth 100000 in
set_option maxHeartbeats 4000000 in
theorem t_X10_isPlainAndGood_null (l : Launch) (D : va_G) (cI cR cM : ClassId) (sz : Nat) {jn : Nat} {g : Nat → Nat} {L : List Nat} {S : Sg} {f : Nat → va_E}  (hj : 1 ≤ jn ∧ jn ≤ 3) (hG : SG g L S) (hI : IN jn cI cR cM g L S f)  : Met l yX10_isPlainAndGood wsX10_isPlainAndGood ({ frames := 0, cells := 0, slots := 0, locals := 0 }) (P0 D cI cR cM [.ref (g 10), .null] sz (va_pl L f)) (QP (fun r => (r.toInt = 0) ∧ (r.toInt = 0 ∨ r.toInt = 1)) sz) 0 0 (va_A [] sz) := by
  refine go (cc := cX10_isPlainAndGood) (maxL := 2) (ret := (some .boolean)) (by decide +kernel) rfl (Nat.le_of_ble_eq_true rfl) ?_
  intro p e s m below meth c ls args Q hQ hsz hx hb hr hml hts hown hlocks hnm hP hK hD hl
  subst hsz
  have hS : va_S (va_A [] s.heap.size) s.heap s.heap [] := va_S.rf
  have hA : ∀ q, s.heap.size ≤ q → va_A [] s.heap.size q := fun q h => Or.inr h
  have hl : lv_has ls 2 [(0, .ref (g 10)), (1, .null)] := hl
  refine lv_aload_nN hx hb dX10_isPlainAndGood_0 rfl (lv_at hl 1 rfl) ?_
  refine lv_ifnullN (tgt := 27) hx hb dX10_isPlainAndGood_1 (by decide) ?_
  refine lv_iconst (v := 0) hx hb dX10_isPlainAndGood_27 (by decide) ?_
  have hz_1 : (0 : Int32).toInt = 0 := by decide
  exact rp_zret hx hb hr hlocks hS (by first | exact Or.inl rfl | exact Or.inr rfl) (⟨show (0 : Int32).toInt = 0 from (by first | assumption | omega), show (0 : Int32).toInt = 0 ∨ (0 : Int32).toInt = 1 from (by first | assumption | omega)⟩) hQ dX10_isPlainAndGood_28
set_option maxRecDepth 100000 in
set_option maxHeartbeats 4000000 in
theorem t_X10_isPlainAndGood (l : Launch) (D : va_G) (cI cR cM : ClassId) (sz : Nat) {jn : Nat} {g : Nat → Nat} {L : List Nat} {S : Sg} {f : Nat → va_E} {b b_p b_n : Nat} {b_l : Int32} {b_c : Nat → Int32}  (hj : 1 ≤ jn ∧ jn ≤ 3) (hG : SG g L S) (hI : IN jn cI cR cM g L S f) (m_b : b ∈ L) (s_b : S b = (0, b_p, b_n)) (f_b : f b = .inr (5, [.int (nI jn), .int (nI (2 * jn)), .ref b_p, .int b_l])) (f_b_p : f b_p = .inl (cI, b_n, .inl b_c))  : Met l yX10_isPlainAndGood wsX10_isPlainAndGood ({ frames := 4, cells := 0, slots := 0, locals := 87 }) (P0 D cI cR cM [.ref (g 10), .ref b] sz (va_pl L f)) (QG (S := Int32 × (Nat → va_E)) (fun u => some (.int u.1)) (fun u => va_pl L u.2) (fun u => IN jn cI cR cM g L S u.2 ∧ FR S [35] f u.2 ∧ (u.1.toInt = 0 ∨ u.1.toInt = 1)) D (va_A (va_pl L f) sz)) 0 0 (va_A (va_pl L f) sz) := by
  refine go (cc := cX10_isPlainAndGood) (maxL := 2) (ret := (some .boolean)) (by decide +kernel) rfl (Nat.le_of_ble_eq_true rfl) ?_
  intro p e s m below meth c ls args Q hQ hsz hx hb hr hml hts hown hlocks hnm hP hK hD hl
  subst hsz
  have hD := hD.self (sz := s.heap.size)
  generalize hAe : va_A (va_pl L f) s.heap.size = A at hD hQ
  have hA : ∀ q, s.heap.size ≤ q → A q := fun q h => by rw [← hAe]; exact Or.inr h
  have hS : va_S A s.heap s.heap [] := va_S.rf
  have hF : FR S [35] f f := FR_rf
  have hl : lv_has ls 2 [(0, .ref (g 10)), (1, .ref b)] := hl
  obtain ⟨v1_b, v2_b, v3_b, m_b_p, s_b_p⟩ := iv_0 hI m_b s_b f_b
  obtain ⟨w1_b, w2_b, w3_b, w4_b, w5_b⟩ := lenw hj v1_b v2_b v3_b
  have k_b := iv_1 hI m_b_p s_b_p f_b_p
  refine lv_aload_n hx hb dX10_isPlainAndGood_0 rfl (lv_at hl 1 rfl) ?_
  refine lv_ifnull hx hb dX10_isPlainAndGood_1 ?_
  refine lv_aload_n hx hb dX10_isPlainAndGood_4 rfl (lv_at hl 1 rfl) ?_
  refine roP (va_runV (As := []) (rest := []) ⟨hx, hb, hml, hown, hts⟩ (t_X5_isPlain l D cI cR cM _  hj hG hI m_b s_b f_b f_b_p ) (cwV 0 hts gX10_isPlainAndGood_X5_isPlain rfl rfl rfl (by decide +kernel) ⟨Nat.le_of_ble_eq_true rfl, Nat.le_of_ble_eq_true rfl⟩) (pre_T hK hP hD m_b f_b rfl) rfl rfl hl.1 rfl (lv_room (Nat.le_of_ble_eq_true rfl)) dX10_isPlainAndGood_5 ⟨Nat.le_of_ble_eq_true rfl, Nat.le_of_ble_eq_true rfl⟩) hS hA hP (fun r_1 H locs hw hP hS => ?_)
  have h01_1 : (r_1.toInt = 0 ∨ r_1.toInt = 1) := hw
  refine a_if_eq (u := r_1.toInt) (tgt := 27) hx hb dX10_isPlainAndGood_8 (by decide) (rfl) (fun c_2 => ?_) (fun c_2 => ?_)
  · refine lv_iconst (v := 0) hx hb dX10_isPlainAndGood_27 (by decide) ?_
    have hz_3 : (0 : Int32).toInt = 0 := by decide
    exact g_zret ((0 : Int32), f) hx hb hr hlocks hS (by first | exact Or.inl rfl | exact Or.inr rfl) rfl (⟨hI, hF, show (0 : Int32).toInt = 0 ∨ (0 : Int32).toInt = 1 from (by first | assumption | omega)⟩) hP hD hQ (Nat.le_of_ble_eq_true rfl) (Nat.le_of_ble_eq_true rfl) dX10_isPlainAndGood_28
  · refine lv_aload_n hx hb dX10_isPlainAndGood_11 rfl (lv_at hl 0 rfl) ?_
    have fg_4 := op_10 hI (gm_10 hG) (gs_10 hG)
    refine t_get (D := D) (L := L) (f := f) (ci := 10) (v := .ref (g 15)) (C := RX10) (T := TX10) (N := 8) hx hb hts (by decide +kernel) hown hK.1 hP (gm_10 hG) fg_4 rfl 4 (by decide) (hts (.fieldLink RX10 53 "JugglingHall" "catches" "LJugglingHall$Catches;") (by decide +kernel)) (fun _ h9 => h9) rfl dX10_isPlainAndGood_12 ?_
    refine lv_aload_n hx hb dX10_isPlainAndGood_15 rfl (lv_at hl 1 rfl) ?_
    obtain ⟨cnt_5, rw_5, fg_5, iv0_5, iv1_5, iv2_5⟩ := op_15 hI (gm_15 hG) (gs_15 hG)
    refine call_p (va_runV (As := [.ref b]) (rest := []) ⟨hx, hb, hml, hown, hts⟩ (t_X1_badPlace l D cI cR cM _  hj hG hI m_b s_b f_b f_b_p ) (cwV 1 hts gX10_isPlainAndGood_X1_badPlace rfl rfl rfl (by decide +kernel) ⟨Nat.le_of_ble_eq_true rfl, Nat.le_of_ble_eq_true rfl⟩) (pre_T hK hP hD (gm_15 hG) fg_5 rfl) rfl rfl hl.1 rfl (lv_room (Nat.le_of_ble_eq_true rfl)) dX10_isPlainAndGood_16 ⟨Nat.le_of_ble_eq_true rfl, Nat.le_of_ble_eq_true rfl⟩) hD hS hA (fun u_6 H locs hw hP hD hS => ?_)
    obtain ⟨r_6, f_6⟩ := u_6
    obtain ⟨hI, hF_6, h_6⟩ : IN jn cI cR cM g L S f_6 ∧ FR S [35] f f_6 ∧ (-1 ≤ r_6.toInt ∧ r_6.toInt ≤ 71) := hw
    have hP : va_P D vwCl (va_pl L f_6) H := hP
    have hD : va_D A (va_pl L f_6) := hD
    have hF := FR_tr hF hF_6 (by decide)
    have fb_7 : f_6 b = .inr (5, [.int (nI jn), .int (nI (2 * jn)), .ref b_p, .int b_l]) := FR_at hF_6 s_b (show (0 : Nat) ∉ ([35] : List Nat) by decide) f_b
    have fb_8 : f_6 b_p = .inl (cI, b_n, .inl b_c) := FR_at hF_6 s_b_p (show (1 : Nat) ∉ ([35] : List Nat) by decide) f_b_p
    have fb_9 : f_6 (g 10) = .inr (10, [.int (nI jn), .ref (g 11), .ref (g 12), .ref (g 13), .ref (g 15), .ref (g 16), .ref (g 17), .ref (g 18)]) := FR_at hF_6 (gs_10 hG) (show (10 : Nat) ∉ ([35] : List Nat) by decide) fg_4
    have fb_10 : f_6 (g 15) = .inr (1, [.ref (g 35), .ref (g 27), .ref (g 36), .ref (g 37), .ref (g 38), .ref (g 39), .int cnt_5, va_rf rw_5]) := FR_at hF_6 (gs_15 hG) (show (15 : Nat) ∉ ([35] : List Nat) by decide) fg_5
    refine lv_iconst (v := (-1)) hx hb dX10_isPlainAndGood_19 (by decide) ?_
    refine a_icmp_ne (u := r_6.toInt) (v := (-1)) (tgt := 27) hx hb dX10_isPlainAndGood_20 (by decide) (rfl) (by decide) (fun c_11 => ?_) (fun c_11 => ?_)
    · refine lv_iconst (v := 0) hx hb dX10_isPlainAndGood_27 (by decide) ?_
      have hz_12 : (0 : Int32).toInt = 0 := by decide
      exact g_zret ((0 : Int32), f_6) hx hb hr hlocks hS (by first | exact Or.inl rfl | exact Or.inr rfl) rfl (⟨hI, hF, show (0 : Int32).toInt = 0 ∨ (0 : Int32).toInt = 1 from (by first | assumption | omega)⟩) hP hD hQ (Nat.le_of_ble_eq_true rfl) (Nat.le_of_ble_eq_true rfl) dX10_isPlainAndGood_28
    · refine lv_iconst (v := 1) hx hb dX10_isPlainAndGood_23 (by decide) ?_
      refine lv_goto (tgt := 28) hx hb dX10_isPlainAndGood_24 (by decide) ?_
      have hz_13 : (1 : Int32).toInt = 1 := by decide
      exact g_zret ((1 : Int32), f_6) hx hb hr hlocks hS (by first | exact Or.inl rfl | exact Or.inr rfl) rfl (⟨hI, hF, show (1 : Int32).toInt = 0 ∨ (1 : Int32).toInt = 1 from (by first | assumption | omega)⟩) hP hD hQ (Nat.le_of_ble_eq_true rfl) (Nat.le_of_ble_eq_true rfl) dX10_isPlainAndGood_28
set_option maxRecDepth 100000 in
set_option maxHeartbeats 4000000 in
theorem t_X10_state (l : Launch) (D : va_G) (cI cR cM : ClassId) (sz : Nat) {jn : Nat} {g : Nat → Nat} {L : List Nat} {S : Sg} {f : Nat → va_E} {x y : Int32}  (hj : 1 ≤ jn ∧ jn ≤ 3) (hG : SG g L S) (hI : IN jn cI cR cM g L S f)  : Met l yX10_state wsX10_state ({ frames := 5, cells := 0, slots := 0, locals := 108 }) (P0 D cI cR cM [.ref (g 10), .int x, .int y] sz (va_pl L f)) (QG (S := Int32 × (Nat → va_E)) (fun u => some (.int u.1)) (fun u => va_pl L u.2) (fun u => IN jn cI cR cM g L S u.2 ∧ FR S [35] f u.2) D (va_A (va_pl L f) sz)) 0 0 (va_A (va_pl L f) sz) := by
  refine go (cc := cX10_state) (maxL := 4) (ret := (some .int)) (by decide +kernel) rfl (Nat.le_of_ble_eq_true rfl) ?_
  intro p e s m below meth c ls args Q hQ hsz hx hb hr hml hts hown hlocks hnm hP hK hD hl
  subst hsz
  have hD := hD.self (sz := s.heap.size)
  generalize hAe : va_A (va_pl L f) s.heap.size = A at hD hQ
  have hA : ∀ q, s.heap.size ≤ q → A q := fun q h => by rw [← hAe]; exact Or.inr h
  have hS : va_S A s.heap s.heap [] := va_S.rf
  have hF : FR S [35] f f := FR_rf
  have hl : lv_has ls 4 [(0, .ref (g 10)), (1, .int x), (2, .int y)] := hl
  refine lv_aload_n hx hb dX10_state_0 rfl (lv_at hl 0 rfl) ?_
  have fg_1 := op_10 hI (gm_10 hG) (gs_10 hG)
  refine t_get (D := D) (L := L) (f := f) (ci := 10) (v := .ref (g 12)) (C := RX10) (T := TX10) (N := 8) hx hb hts (by decide +kernel) hown hK.1 hP (gm_10 hG) fg_1 rfl 2 (by decide) (hts (.fieldLink RX10 32 "JugglingHall" "book" "LJugglingHall$Book;") (by decide +kernel)) (fun _ h9 => h9) rfl dX10_state_1 ?_
  refine lv_iload_n hx hb dX10_state_4 rfl (lv_at hl 1 rfl) ?_
  obtain ⟨tm_2, lk_2, fg_2, iv0_2, iv1_2, iv2_2⟩ := op_12 hI (gm_12 hG) (gs_12 hG)
  refine roR (va_runV (As := [.int x]) (rest := []) ⟨hx, hb, hml, hown, hts⟩ (t_X0_rowSeen l D cI cR cM _  hj hG hI  ) (cwV 1 hts gX10_state_X0_rowSeen rfl rfl rfl (by decide +kernel) ⟨Nat.le_of_ble_eq_true rfl, Nat.le_of_ble_eq_true rfl⟩) (pre_T hK hP hD (gm_12 hG) fg_2 rfl) rfl rfl hl.1 rfl (lv_room (Nat.le_of_ble_eq_true rfl)) dX10_state_5 ⟨Nat.le_of_ble_eq_true rfl, Nat.le_of_ble_eq_true rfl⟩) hS hA hP (fun w_3 H locs hw hP hS => ?_)
  have ho_3 : (∀ z, w_3 = some z → ∃ p n, isRow L S z p n) := hw
  rcases x_opt w_3 with e_4 | ⟨r_4, e_4⟩
  · subst e_4
    refine W.eq (g2 := F0 m 8 ls [.null]) rfl ?_
    have hl : lv_has ls 4 [(0, .ref (g 10)), (1, .int x), (2, .int y)] := hl
    refine lv_astore_nN (lv' := [(3, .null), (0, .ref (g 10)), (1, .int x), (2, .int y)]) hx hb dX10_state_8 rfl hl (by decide) rfl (fun ls hl => ?_)
    refine lv_aload_n hx hb dX10_state_9 rfl (lv_at hl 1 rfl) ?_
    refine lv_aload_nN hx hb dX10_state_10 rfl (lv_at hl 0 rfl) ?_
    refine roP (va_runV (As := [.null]) (rest := []) ⟨hx, hb, hml, hown, hts⟩ (t_X10_isPlainAndGood_null l D cI cR cM _  hj hG hI  ) (cwV 1 hts gX10_state_X10_isPlainAndGood rfl rfl rfl (by decide +kernel) ⟨Nat.le_of_ble_eq_true rfl, Nat.le_of_ble_eq_true rfl⟩) (pre_T hK hP hD (gm_10 hG) fg_1 rfl) rfl rfl hl.1 rfl (lv_room (Nat.le_of_ble_eq_true rfl)) dX10_state_11 ⟨Nat.le_of_ble_eq_true rfl, Nat.le_of_ble_eq_true rfl⟩) hS hA hP (fun r_5 H locs hw hP hS => ?_)
    obtain ⟨h0_5, h01_5⟩ : (r_5.toInt = 0) ∧ (r_5.toInt = 0 ∨ r_5.toInt = 1) := hw
    refine a_if_eq (u := r_5.toInt) (tgt := 29) hx hb dX10_state_14 (by decide) (rfl) (fun c_6 => ?_) (fun c_6 => absurd c_6 (by omega))
    refine lv_iconst (v := (-1)) hx hb dX10_state_29 (by decide) ?_
    have hz_7 : (-1 : Int32).toInt = (-1) := by decide
    exact g_iret ((-1 : Int32), f) hx hb hr hlocks hS rfl (⟨hI, hF⟩) hP hD hQ (Nat.le_of_ble_eq_true rfl) (Nat.le_of_ble_eq_true rfl) dX10_state_30
  · subst e_4
    refine W.eq (g2 := F0 m 8 ls [.ref r_4]) rfl ?_
    have hl : lv_has ls 4 [(0, .ref (g 10)), (1, .int x), (2, .int y)] := hl
    obtain ⟨p_8, n_8, m_8, s_8⟩ := ho_3 _ rfl
    refine lv_astore_n (lv' := [(3, .ref r_4), (0, .ref (g 10)), (1, .int x), (2, .int y)]) hx hb dX10_state_8 rfl hl (by decide) rfl (fun ls hl => ?_)
    refine lv_aload_n hx hb dX10_state_9 rfl (lv_at hl 1 rfl) ?_
    refine lv_aload_n hx hb dX10_state_10 rfl (lv_at hl 0 rfl) ?_
    obtain ⟨len_9, fg_9, v1_9, v2_9, v3_9, mp_9, sp_9⟩ := op_0 hI m_8 s_8
    obtain ⟨w1_9, w2_9, w3_9, w4_9, w5_9⟩ := lenw hj v1_9 v2_9 v3_9
    obtain ⟨c_10, fg_10, iv0_10⟩ := op_1 hI mp_9 sp_9
    refine call_p (va_runV (As := [.ref r_4]) (rest := []) ⟨hx, hb, hml, hown, hts⟩ (t_X10_isPlainAndGood l D cI cR cM _  hj hG hI m_8 s_8 fg_9 fg_10 ) (cwV 1 hts gX10_state_X10_isPlainAndGood rfl rfl rfl (by decide +kernel) ⟨Nat.le_of_ble_eq_true rfl, Nat.le_of_ble_eq_true rfl⟩) (pre_T hK hP hD (gm_10 hG) fg_1 rfl) rfl rfl hl.1 rfl (lv_room (Nat.le_of_ble_eq_true rfl)) dX10_state_11 ⟨Nat.le_of_ble_eq_true rfl, Nat.le_of_ble_eq_true rfl⟩) hD hS hA (fun u_11 H locs hw hP hD hS => ?_)
    obtain ⟨r_11, f_11⟩ := u_11
    obtain ⟨hI, hF_11, h01_11⟩ : IN jn cI cR cM g L S f_11 ∧ FR S [35] f f_11 ∧ (r_11.toInt = 0 ∨ r_11.toInt = 1) := hw
    have hP : va_P D vwCl (va_pl L f_11) H := hP
    have hD : va_D A (va_pl L f_11) := hD
    have hF := FR_tr hF hF_11 (by decide)
    have fb_12 : f_11 (g 10) = .inr (10, [.int (nI jn), .ref (g 11), .ref (g 12), .ref (g 13), .ref (g 15), .ref (g 16), .ref (g 17), .ref (g 18)]) := FR_at hF_11 (gs_10 hG) (show (10 : Nat) ∉ ([35] : List Nat) by decide) fg_1
    have fb_13 : f_11 (g 12) = .inr (0, [.ref (g 20), .ref (g 21), .int tm_2, .int lk_2]) := FR_at hF_11 (gs_12 hG) (show (12 : Nat) ∉ ([35] : List Nat) by decide) fg_2
    have fb_14 : f_11 r_4 = .inr (5, [.int (nI jn), .int (nI (2 * jn)), .ref p_8, .int len_9]) := FR_at hF_11 s_8 (show (0 : Nat) ∉ ([35] : List Nat) by decide) fg_9
    have fb_15 : f_11 p_8 = .inl (cI, n_8, .inl c_10) := FR_at hF_11 sp_9 (show (1 : Nat) ∉ ([35] : List Nat) by decide) fg_10
    refine a_if_eq (u := r_11.toInt) (tgt := 29) hx hb dX10_state_14 (by decide) (rfl) (fun c_16 => ?_) (fun c_16 => ?_)
    · refine lv_iconst (v := (-1)) hx hb dX10_state_29 (by decide) ?_
      have hz_17 : (-1 : Int32).toInt = (-1) := by decide
      exact g_iret ((-1 : Int32), f_11) hx hb hr hlocks hS rfl (⟨hI, hF⟩) hP hD hQ (Nat.le_of_ble_eq_true rfl) (Nat.le_of_ble_eq_true rfl) dX10_state_30
    · refine lv_iload_n hx hb dX10_state_17 rfl (lv_at hl 3 rfl) ?_
      refine a_if_lt (u := y.toInt) (tgt := 29) hx hb dX10_state_18 (by decide) (rfl) (fun c_18 => ?_) (fun c_18 => ?_)
      · refine lv_iconst (v := (-1)) hx hb dX10_state_29 (by decide) ?_
        have hz_19 : (-1 : Int32).toInt = (-1) := by decide
        exact g_iret ((-1 : Int32), f_11) hx hb hr hlocks hS rfl (⟨hI, hF⟩) hP hD hQ (Nat.le_of_ble_eq_true rfl) (Nat.le_of_ble_eq_true rfl) dX10_state_30
      · refine lv_iload_n hx hb dX10_state_21 rfl (lv_at hl 3 rfl) ?_
        refine lv_aload_n hx hb dX10_state_22 rfl (lv_at hl 0 rfl) ?_
        refine t_getN (D := D) (L := L) (f := f_11) (ci := 5) (v := .int len_9) (C := RX5) (T := TX5) (N := 4) (host := "JugglingHall") hx hb hts (by decide +kernel) hown hK.1 hP m_8 fb_14 rfl 3 (by decide) (hK.nw (.fieldLinkNest RX10 115 "JugglingHall$Row" "length" "I" "JugglingHall") (by decide +kernel) rfl) (fun _ h9 => h9) rfl dX10_state_23 ?_
        refine a_icmp_lt (u := y.toInt) (v := len_9.toInt) (tgt := 31) hx hb dX10_state_26 (by decide) (rfl) (rfl) (fun c_20 => ?_) (fun c_20 => ?_)
        · refine lv_aload_n hx hb dX10_state_31 rfl (lv_at hl 0 rfl) ?_
          refine lv_iload_n hx hb dX10_state_32 rfl (lv_at hl 3 rfl) ?_
          refine roP (va_runS (As := [.ref r_4, .int y]) (rest := []) ⟨hx, hb, hml, hown, hts⟩ (t_X9_stateOf l D cI cR cM _  hj hG hI m_8 s_8 fb_14 fb_15 (by first | assumption | omega)) (va_cwS 2 hts gX10_state_X9_stateOf rfl rfl rfl (by decide +kernel) ⟨Nat.le_of_ble_eq_true rfl, Nat.le_of_ble_eq_true rfl⟩) (pre_S hK hP hD) rfl rfl hl.1 rfl (lv_room (Nat.le_of_ble_eq_true rfl)) dX10_state_33 ⟨Nat.le_of_ble_eq_true rfl, Nat.le_of_ble_eq_true rfl⟩) hS hA hP (fun r_21 H locs hw hP hS => ?_)
          exact g_iret (r_21, f_11) hx hb hr hlocks hS rfl (⟨hI, hF⟩) hP hD hQ (Nat.le_of_ble_eq_true rfl) (Nat.le_of_ble_eq_true rfl) dX10_state_36
        · refine lv_iconst (v := (-1)) hx hb dX10_state_29 (by decide) ?_
          have hz_22 : (-1 : Int32).toInt = (-1) := by decide
          exact g_iret ((-1 : Int32), f_11) hx hb hr hlocks hS rfl (⟨hI, hF⟩) hP hD hQ (Nat.le_of_ble_eq_true rfl) (Nat.le_of_ble_eq_true rfl) dX10_state_30
set_option maxRecDepth 100000 in
set_option maxHeartbeats 4000000 in
theorem t_X10_clear (l : Launch) (D : va_G) (cI cR cM : ClassId) (sz : Nat) {jn : Nat} {g : Nat → Nat} {L : List Nat} {S : Sg} {f : Nat → va_E}  (hj : 1 ≤ jn ∧ jn ≤ 3) (hG : SG g L S) (hI : IN jn cI cR cM g L S f)  : Met l yX10_clear wsX10_clear ({ frames := 0, cells := 0, slots := 0, locals := 0 }) (P0 D cI cR cM [.ref (g 10)] sz (va_pl L f)) (QG (S := Int32 × (Nat → va_E)) (fun u => some (.int u.1)) (fun u => va_pl L u.2) (fun u => IN jn cI cR cM g L S u.2 ∧ FR S [17] f u.2) D (va_A (va_pl L f) sz)) 0 0 (va_A (va_pl L f) sz) := by
  refine go (cc := cX10_clear) (maxL := 2) (ret := (some .int)) (by decide +kernel) rfl (Nat.le_of_ble_eq_true rfl) ?_
  intro p e s m below meth c ls args Q hQ hsz hx hb hr hml hts hown hlocks hnm hP hK hD hl
  subst hsz
  have hD := hD.self (sz := s.heap.size)
  generalize hAe : va_A (va_pl L f) s.heap.size = A at hD hQ
  have hA : ∀ q, s.heap.size ≤ q → A q := fun q h => by rw [← hAe]; exact Or.inr h
  have hS : va_S A s.heap s.heap [] := va_S.rf
  have hF : FR S [17] f f := FR_rf
  have hl : lv_has ls 2 [(0, .ref (g 10))] := hl
  refine lv_aload_n hx hb dX10_clear_0 rfl (lv_at hl 0 rfl) ?_
  have fg_1 := op_10 hI (gm_10 hG) (gs_10 hG)
  refine t_get (D := D) (L := L) (f := f) (ci := 10) (v := .ref (g 17)) (C := RX10) (T := TX10) (N := 8) hx hb hts (by decide +kernel) hown hK.1 hP (gm_10 hG) fg_1 rfl 6 (by decide) (hts (.fieldLink RX10 67 "JugglingHall" "sheet" "LJugglingHall$Sheet;") (by decide +kernel)) (fun _ h9 => h9) rfl dX10_clear_1 ?_
  obtain ⟨len_2, st_2, fg_2, iv0_2, iv1_2⟩ := op_17 hI (gm_17 hG) (gs_17 hG)
  refine t_getN (D := D) (L := L) (f := f) (ci := 6) (v := .int len_2) (C := RX6) (T := TX6) (N := 4) (host := "JugglingHall") hx hb hts (by decide +kernel) hown hK.1 hP (gm_17 hG) fg_2 rfl 2 (by decide) (hK.nw (.fieldLinkNest RX10 200 "JugglingHall$Sheet" "length" "I" "JugglingHall") (by decide +kernel) rfl) (fun _ h9 => h9) rfl dX10_clear_4 ?_
  refine lv_istore_n (lv' := [(1, .int len_2), (0, .ref (g 10))]) hx hb dX10_clear_7 rfl hl (by decide) rfl (fun ls hl => ?_)
  refine lv_aload_n hx hb dX10_clear_8 rfl (lv_at hl 1 rfl) ?_
  refine t_get (D := D) (L := L) (f := f) (ci := 10) (v := .ref (g 17)) (C := RX10) (T := TX10) (N := 8) hx hb hts (by decide +kernel) hown hK.1 hP (gm_10 hG) fg_1 rfl 6 (by decide) (hts (.fieldLink RX10 67 "JugglingHall" "sheet" "LJugglingHall$Sheet;") (by decide +kernel)) (fun _ h9 => h9) rfl dX10_clear_9 ?_
  refine lv_iconst (v := 0) hx hb dX10_clear_12 (by decide) ?_
  have hz_4 : (0 : Int32).toInt = 0 := by decide
  refine t_putN (D := D) (L := L) (f := f) (ci := 6) (v := .int 0) (ty := .int) (C := RX6) (T := TX6) (N := 4) (host := "JugglingHall") hx hb hts (by decide +kernel) tyX6 tyX6_ok nmX6 hown hK.1 hP hD hS (gm_17 hG) fg_2 rfl 2 (by decide) (hK.nw (.fieldLinkNest RX10 200 "JugglingHall$Sheet" "length" "I" "JugglingHall") (by decide +kernel) rfl) (fun _ h9 => h9) rfl (by decide +kernel) rfl rfl (Nat.le_of_ble_eq_true rfl) dX10_clear_13 (fun f_3 H locs e9_3 o_3 hP hD hS => ?_)
  have fa_3 : f_3 (g 17) = .inr (6, [.ref (g 44), .ref (g 45), .int 0, .int st_2]) := e9_3
  have hI := IN_set (e := .inr (6, [.ref (g 44), .ref (g 45), .int 0, .int st_2])) hI (gs_17 hG) (mk_17 (by first | assumption | omega) (by first | assumption | omega)) fa_3 o_3
  have hF := FR_set hF (gs_17 hG) (show (17 : Nat) ∈ ([17] : List Nat) by decide) o_3
  have fb_5 : f_3 (g 10) = .inr (10, [.int (nI jn), .ref (g 11), .ref (g 12), .ref (g 13), .ref (g 15), .ref (g 16), .ref (g 17), .ref (g 18)]) := f_at o_3 (S_ne (gs_10 hG) (gs_17 hG) (show (10 : Nat) ≠ 17 by decide)) fg_1
  refine lv_iload_n hx hb dX10_clear_16 rfl (lv_at hl 0 rfl) ?_
  exact g_iret (len_2, f_3) hx hb hr hlocks hS rfl (⟨hI, hF⟩) hP hD hQ (Nat.le_of_ble_eq_true rfl) (Nat.le_of_ble_eq_true rfl) dX10_clear_17
set_option maxRecDepth 100000 in
set_option maxHeartbeats 4000000 in
theorem t_X10_score (l : Launch) (D : va_G) (cI cR cM : ClassId) (sz : Nat) {jn : Nat} {g : Nat → Nat} {L : List Nat} {S : Sg} {f : Nat → va_E} {x y : Int32}  (hj : 1 ≤ jn ∧ jn ≤ 3) (hG : SG g L S) (hI : IN jn cI cR cM g L S f)  : Met l yX10_score wsX10_score ({ frames := 0, cells := 0, slots := 0, locals := 0 }) (P0 D cI cR cM [.ref (g 10), .int x, .int y] sz (va_pl L f)) (QP (fun r => True) sz) 0 0 (va_A [] sz) := by
  refine go (cc := cX10_score) (maxL := 3) (ret := (some .int)) (by decide +kernel) rfl (Nat.le_of_ble_eq_true rfl) ?_
  intro p e s m below meth c ls args Q hQ hsz hx hb hr hml hts hown hlocks hnm hP hK hD hl
  subst hsz
  have hS : va_S (va_A [] s.heap.size) s.heap s.heap [] := va_S.rf
  have hA : ∀ q, s.heap.size ≤ q → va_A [] s.heap.size q := fun q h => Or.inr h
  have hl : lv_has ls 3 [(0, .ref (g 10)), (1, .int x), (2, .int y)] := hl
  refine lv_iload_n hx hb dX10_score_0 rfl (lv_at hl 1 rfl) ?_
  refine a_if_lt (u := x.toInt) (tgt := 15) hx hb dX10_score_1 (by decide) (rfl) (fun c_1 => ?_) (fun c_1 => ?_)
  · refine lv_iconst (v := (-1)) hx hb dX10_score_15 (by decide) ?_
    have hz_2 : (-1 : Int32).toInt = (-1) := by decide
    exact rp_iret hx hb hr hlocks hS (trivial) hQ dX10_score_16
  · refine lv_iload_n hx hb dX10_score_4 rfl (lv_at hl 1 rfl) ?_
    refine lv_aload_n hx hb dX10_score_5 rfl (lv_at hl 0 rfl) ?_
    have fg_3 := op_10 hI (gm_10 hG) (gs_10 hG)
    refine t_get (D := D) (L := L) (f := f) (ci := 10) (v := .ref (g 17)) (C := RX10) (T := TX10) (N := 8) hx hb hts (by decide +kernel) hown hK.1 hP (gm_10 hG) fg_3 rfl 6 (by decide) (hts (.fieldLink RX10 67 "JugglingHall" "sheet" "LJugglingHall$Sheet;") (by decide +kernel)) (fun _ h9 => h9) rfl dX10_score_6 ?_
    obtain ⟨len_4, st_4, fg_4, iv0_4, iv1_4⟩ := op_17 hI (gm_17 hG) (gs_17 hG)
    refine t_getN (D := D) (L := L) (f := f) (ci := 6) (v := .int len_4) (C := RX6) (T := TX6) (N := 4) (host := "JugglingHall") hx hb hts (by decide +kernel) hown hK.1 hP (gm_17 hG) fg_4 rfl 2 (by decide) (hK.nw (.fieldLinkNest RX10 200 "JugglingHall$Sheet" "length" "I" "JugglingHall") (by decide +kernel) rfl) (fun _ h9 => h9) rfl dX10_score_9 ?_
    refine a_icmp_lt (u := x.toInt) (v := len_4.toInt) (tgt := 17) hx hb dX10_score_12 (by decide) (rfl) (rfl) (fun c_5 => ?_) (fun c_5 => ?_)
    · refine lv_iload_n hx hb dX10_score_17 rfl (lv_at hl 2 rfl) ?_
      refine a_if_ne (u := y.toInt) (tgt := 31) hx hb dX10_score_18 (by decide) (rfl) (fun c_6 => ?_) (fun c_6 => ?_)
      · refine lv_iload_n hx hb dX10_score_31 rfl (lv_at hl 2 rfl) ?_
        refine lv_iconst (v := 1) hx hb dX10_score_32 (by decide) ?_
        refine a_icmp_ne (u := y.toInt) (v := 1) (tgt := 48) hx hb dX10_score_33 (by decide) (rfl) (by decide) (fun c_7 => ?_) (fun c_7 => ?_)
        · refine lv_iconst (v := (-1)) hx hb dX10_score_48 (by decide) ?_
          have hz_8 : (-1 : Int32).toInt = (-1) := by decide
          exact rp_iret hx hb hr hlocks hS (trivial) hQ dX10_score_49
        · refine lv_aload_n hx hb dX10_score_36 rfl (lv_at hl 0 rfl) ?_
          refine t_get (D := D) (L := L) (f := f) (ci := 10) (v := .ref (g 17)) (C := RX10) (T := TX10) (N := 8) hx hb hts (by decide +kernel) hown hK.1 hP (gm_10 hG) fg_3 rfl 6 (by decide) (hts (.fieldLink RX10 67 "JugglingHall" "sheet" "LJugglingHall$Sheet;") (by decide +kernel)) (fun _ h9 => h9) rfl dX10_score_37 ?_
          refine t_getN (D := D) (L := L) (f := f) (ci := 6) (v := .ref (g 45)) (C := RX6) (T := TX6) (N := 4) (host := "JugglingHall") hx hb hts (by decide +kernel) hown hK.1 hP (gm_17 hG) fg_4 rfl 1 (by decide) (hK.nw (.fieldLinkNest RX10 214 "JugglingHall$Sheet" "letters" "[I" "JugglingHall") (by decide +kernel) rfl) (fun _ h9 => h9) rfl dX10_score_40 ?_
          refine lv_iload_n hx hb dX10_score_43 rfl (lv_at hl 1 rfl) ?_
          obtain ⟨c_9, fg_9⟩ := op_45 hI (gm_45 hG) (gs_45 hG)
          refine t_iald (L := L) (f := f) (y := c_9) (u := x.toInt) hx hb hK.1 hP (gm_45 hG) 0 fg_9 rfl dX10_score_44 (rfl) (by omega) (fun z_10 q_10 e_10 => ?_)
          refine lv_goto (tgt := 49) hx hb dX10_score_45 (by decide) ?_
          exact rp_iret hx hb hr hlocks hS (trivial) hQ dX10_score_49
      · refine lv_aload_n hx hb dX10_score_21 rfl (lv_at hl 0 rfl) ?_
        refine t_get (D := D) (L := L) (f := f) (ci := 10) (v := .ref (g 17)) (C := RX10) (T := TX10) (N := 8) hx hb hts (by decide +kernel) hown hK.1 hP (gm_10 hG) fg_3 rfl 6 (by decide) (hts (.fieldLink RX10 67 "JugglingHall" "sheet" "LJugglingHall$Sheet;") (by decide +kernel)) (fun _ h9 => h9) rfl dX10_score_22 ?_
        refine t_getN (D := D) (L := L) (f := f) (ci := 6) (v := .ref (g 44)) (C := RX6) (T := TX6) (N := 4) (host := "JugglingHall") hx hb hts (by decide +kernel) hown hK.1 hP (gm_17 hG) fg_4 rfl 0 (by decide) (hK.nw (.fieldLinkNest RX10 213 "JugglingHall$Sheet" "heights" "[I" "JugglingHall") (by decide +kernel) rfl) (fun _ h9 => h9) rfl dX10_score_25 ?_
        refine lv_iload_n hx hb dX10_score_28 rfl (lv_at hl 1 rfl) ?_
        obtain ⟨c_11, fg_11⟩ := op_44 hI (gm_44 hG) (gs_44 hG)
        refine t_iald (L := L) (f := f) (y := c_11) (u := x.toInt) hx hb hK.1 hP (gm_44 hG) 0 fg_11 rfl dX10_score_29 (rfl) (by omega) (fun z_12 q_12 e_12 => ?_)
        exact rp_iret hx hb hr hlocks hS (trivial) hQ dX10_score_30
    · refine lv_iconst (v := (-1)) hx hb dX10_score_15 (by decide) ?_
      have hz_13 : (-1 : Int32).toInt = (-1) := by decide
      exact rp_iret hx hb hr hlocks hS (trivial) hQ dX10_score_16
set_option maxRecDepth 100000 in
set_option maxHeartbeats 4000000 in
theorem t_X10_seen (l : Launch) (D : va_G) (cI cR cM : ClassId) (sz : Nat) {jn : Nat} {g : Nat → Nat} {L : List Nat} {S : Sg} {f : Nat → va_E} {x : Int32}  (hj : 1 ≤ jn ∧ jn ≤ 3) (hG : SG g L S) (hI : IN jn cI cR cM g L S f)  : Met l yX10_seen wsX10_seen ({ frames := 1, cells := 0, slots := 0, locals := 20 }) (P0 D cI cR cM [.ref (g 10), .int x] sz (va_pl L f)) (QP (fun r => True) sz) 0 0 (va_A [] sz) := by
  refine go (cc := cX10_seen) (maxL := 4) (ret := (some .int)) (by decide +kernel) rfl (Nat.le_of_ble_eq_true rfl) ?_
  intro p e s m below meth c ls args Q hQ hsz hx hb hr hml hts hown hlocks hnm hP hK hD hl
  subst hsz
  have hS : va_S (va_A [] s.heap.size) s.heap s.heap [] := va_S.rf
  have hA : ∀ q, s.heap.size ≤ q → va_A [] s.heap.size q := fun q h => Or.inr h
  have hl : lv_has ls 4 [(0, .ref (g 10)), (1, .int x)] := hl
  have hx9 := i_lt x
  refine lv_aload_n hx hb dX10_seen_0 rfl (lv_at hl 0 rfl) ?_
  have fg_1 := op_10 hI (gm_10 hG) (gs_10 hG)
  refine t_get (D := D) (L := L) (f := f) (ci := 10) (v := .ref (g 12)) (C := RX10) (T := TX10) (N := 8) hx hb hts (by decide +kernel) hown hK.1 hP (gm_10 hG) fg_1 rfl 2 (by decide) (hts (.fieldLink RX10 32 "JugglingHall" "book" "LJugglingHall$Book;") (by decide +kernel)) (fun _ h9 => h9) rfl dX10_seen_1 ?_
  obtain ⟨tm_2, lk_2, fg_2, iv0_2, iv1_2, iv2_2⟩ := op_12 hI (gm_12 hG) (gs_12 hG)
  refine roR (va_runV (As := []) (rest := []) ⟨hx, hb, hml, hown, hts⟩ (t_X0_marksSeen l D cI cR cM _  hj hG hI  ) (cwV 0 hts gX10_seen_X0_marksSeen rfl rfl rfl (by decide +kernel) ⟨Nat.le_of_ble_eq_true rfl, Nat.le_of_ble_eq_true rfl⟩) (pre_T hK hP hD (gm_12 hG) fg_2 rfl) rfl rfl hl.1 rfl (lv_room (Nat.le_of_ble_eq_true rfl)) dX10_seen_4 ⟨Nat.le_of_ble_eq_true rfl, Nat.le_of_ble_eq_true rfl⟩) hS hA hP (fun w_3 H locs hw hP hS => ?_)
  have ho_3 : (∀ z, w_3 = some z → ∃ p, isMk L S z p) := hw
  rcases x_opt w_3 with e_4 | ⟨r_4, e_4⟩
  · subst e_4
    refine W.eq (g2 := F0 m 7 ls [.null]) rfl ?_
    have hl : lv_has ls 4 [(0, .ref (g 10)), (1, .int x)] := hl
    refine lv_astore_nN (lv' := [(2, .null), (0, .ref (g 10)), (1, .int x)]) hx hb dX10_seen_7 rfl hl (by decide) rfl (fun ls hl => ?_)
    refine lv_aload_nN hx hb dX10_seen_8 rfl (lv_at hl 0 rfl) ?_
    refine lv_ifnonnullN hx hb dX10_seen_9 ?_
    refine lv_iconst (v := 0) hx hb dX10_seen_12 (by decide) ?_
    refine lv_goto (tgt := 20) hx hb dX10_seen_13 (by decide) ?_
    refine lv_istore_n (lv' := [(3, .int 0), (2, .null), (0, .ref (g 10)), (1, .int x)]) hx hb dX10_seen_20 rfl hl (by decide) rfl (fun ls hl => ?_)
    refine lv_iload_n hx hb dX10_seen_21 rfl (lv_at hl 3 rfl) ?_
    refine a_if_ne (u := x.toInt) (tgt := 27) hx hb dX10_seen_22 (by decide) (rfl) (fun c_5 => ?_) (fun c_5 => ?_)
    · refine lv_iload_n hx hb dX10_seen_27 rfl (lv_at hl 3 rfl) ?_
      refine lv_bipush (v := 10) hx hb dX10_seen_28 (by decide) ?_
      refine a_icmp_lt (u := x.toInt) (v := 10) (tgt := 41) hx hb dX10_seen_30 (by decide) (rfl) (by decide) (fun c_6 => ?_) (fun c_6 => ?_)
      · refine lv_iconst (v := (-1)) hx hb dX10_seen_41 (by decide) ?_
        refine lv_goto (tgt := 54) hx hb dX10_seen_42 (by decide) ?_
        have hz_7 : (-1 : Int32).toInt = (-1) := by decide
        exact rp_iret hx hb hr hlocks hS (trivial) hQ dX10_seen_54
      · refine lv_iload_n hx hb dX10_seen_33 rfl (lv_at hl 3 rfl) ?_
        refine lv_bipush (v := 10) hx hb dX10_seen_34 (by decide) ?_
        refine a_isub (u := x.toInt) (v := 10) hx hb dX10_seen_36 (rfl) (by decide) (by omega) (fun z_8 e_8 => ?_)
        refine lv_iload_n hx hb dX10_seen_37 rfl (lv_at hl 0 rfl) ?_
        refine a_icmp_lt (u := (x.toInt - 10)) (v := 0) (tgt := 45) hx hb dX10_seen_38 (by decide) (e_8) (by decide) (fun c_9 => absurd c_9 (by omega)) (fun c_9 => ?_)
        refine lv_iconst (v := (-1)) hx hb dX10_seen_41 (by decide) ?_
        refine lv_goto (tgt := 54) hx hb dX10_seen_42 (by decide) ?_
        have hz_10 : (-1 : Int32).toInt = (-1) := by decide
        exact rp_iret hx hb hr hlocks hS (trivial) hQ dX10_seen_54
    · refine lv_iload_n hx hb dX10_seen_25 rfl (lv_at hl 0 rfl) ?_
      have hz_11 : (0 : Int32).toInt = 0 := by decide
      exact rp_iret hx hb hr hlocks hS (trivial) hQ dX10_seen_26
  · subst e_4
    refine W.eq (g2 := F0 m 7 ls [.ref r_4]) rfl ?_
    have hl : lv_has ls 4 [(0, .ref (g 10)), (1, .int x)] := hl
    obtain ⟨p_12, m_12, s_12⟩ := ho_3 _ rfl
    refine lv_astore_n (lv' := [(2, .ref r_4), (0, .ref (g 10)), (1, .int x)]) hx hb dX10_seen_7 rfl hl (by decide) rfl (fun ls hl => ?_)
    refine lv_aload_n hx hb dX10_seen_8 rfl (lv_at hl 0 rfl) ?_
    refine lv_ifnonnull (tgt := 16) hx hb dX10_seen_9 (by decide) ?_
    refine lv_aload_n hx hb dX10_seen_16 rfl (lv_at hl 0 rfl) ?_
    obtain ⟨cnt_13, fg_13, v1_13, v2_13, mp_13, sp_13⟩ := op_2 hI m_12 s_12
    refine t_getN (D := D) (L := L) (f := f) (ci := 3) (v := .int cnt_13) (C := RX3) (T := TX3) (N := 2) (host := "JugglingHall") hx hb hts (by decide +kernel) hown hK.1 hP m_12 fg_13 rfl 1 (by decide) (hK.nw (.fieldLinkNest RX10 221 "JugglingHall$Marks" "count" "I" "JugglingHall") (by decide +kernel) rfl) (fun _ h9 => h9) rfl dX10_seen_17 ?_
    refine lv_istore_n (lv' := [(3, .int cnt_13), (2, .ref r_4), (0, .ref (g 10)), (1, .int x)]) hx hb dX10_seen_20 rfl hl (by decide) rfl (fun ls hl => ?_)
    refine lv_iload_n hx hb dX10_seen_21 rfl (lv_at hl 3 rfl) ?_
    refine a_if_ne (u := x.toInt) (tgt := 27) hx hb dX10_seen_22 (by decide) (rfl) (fun c_14 => ?_) (fun c_14 => ?_)
    · refine lv_iload_n hx hb dX10_seen_27 rfl (lv_at hl 3 rfl) ?_
      refine lv_bipush (v := 10) hx hb dX10_seen_28 (by decide) ?_
      refine a_icmp_lt (u := x.toInt) (v := 10) (tgt := 41) hx hb dX10_seen_30 (by decide) (rfl) (by decide) (fun c_15 => ?_) (fun c_15 => ?_)
      · refine lv_iconst (v := (-1)) hx hb dX10_seen_41 (by decide) ?_
        refine lv_goto (tgt := 54) hx hb dX10_seen_42 (by decide) ?_
        have hz_16 : (-1 : Int32).toInt = (-1) := by decide
        exact rp_iret hx hb hr hlocks hS (trivial) hQ dX10_seen_54
      · refine lv_iload_n hx hb dX10_seen_33 rfl (lv_at hl 3 rfl) ?_
        refine lv_bipush (v := 10) hx hb dX10_seen_34 (by decide) ?_
        refine a_isub (u := x.toInt) (v := 10) hx hb dX10_seen_36 (rfl) (by decide) (by omega) (fun z_17 e_17 => ?_)
        refine lv_iload_n hx hb dX10_seen_37 rfl (lv_at hl 0 rfl) ?_
        refine a_icmp_lt (u := (x.toInt - 10)) (v := cnt_13.toInt) (tgt := 45) hx hb dX10_seen_38 (by decide) (e_17) (rfl) (fun c_18 => ?_) (fun c_18 => ?_)
        · refine lv_aload_n hx hb dX10_seen_45 rfl (lv_at hl 1 rfl) ?_
          refine t_getN (D := D) (L := L) (f := f) (ci := 3) (v := .ref p_12) (C := RX3) (T := TX3) (N := 2) (host := "JugglingHall") hx hb hts (by decide +kernel) hown hK.1 hP m_12 fg_13 rfl 0 (by decide) (hK.nw (.fieldLinkNest RX10 224 "JugglingHall$Marks" "heights" "[I" "JugglingHall") (by decide +kernel) rfl) (fun _ h9 => h9) rfl dX10_seen_46 ?_
          refine lv_iload_n hx hb dX10_seen_49 rfl (lv_at hl 3 rfl) ?_
          refine lv_bipush (v := 10) hx hb dX10_seen_50 (by decide) ?_
          refine a_isub (u := x.toInt) (v := 10) hx hb dX10_seen_52 (rfl) (by decide) (by omega) (fun z_19 e_19 => ?_)
          obtain ⟨c_20, fg_20⟩ := op_3 hI mp_13 sp_13
          refine t_iald (L := L) (f := f) (y := c_20) (u := (x.toInt - 10)) hx hb hK.1 hP mp_13 0 fg_20 rfl dX10_seen_53 (e_19) (by omega) (fun z_21 q_21 e_21 => ?_)
          exact rp_iret hx hb hr hlocks hS (trivial) hQ dX10_seen_54
        · refine lv_iconst (v := (-1)) hx hb dX10_seen_41 (by decide) ?_
          refine lv_goto (tgt := 54) hx hb dX10_seen_42 (by decide) ?_
          have hz_22 : (-1 : Int32).toInt = (-1) := by decide
          exact rp_iret hx hb hr hlocks hS (trivial) hQ dX10_seen_54
    · refine lv_iload_n hx hb dX10_seen_25 rfl (lv_at hl 0 rfl) ?_
      exact rp_iret hx hb hr hlocks hS (trivial) hQ dX10_seen_26
set_option maxRecDepth 100000 in
set_option maxHeartbeats 4000000 in
theorem t_X10_whole (l : Launch) (D : va_G) (cI cR cM : ClassId) (sz : Nat) {jn : Nat} {g : Nat → Nat} {L : List Nat} {S : Sg} {f : Nat → va_E} {x y : Int32}  (hj : 1 ≤ jn ∧ jn ≤ 3) (hG : SG g L S) (hI : IN jn cI cR cM g L S f)  : Met l yX10_whole wsX10_whole ({ frames := 4, cells := 0, slots := 0, locals := 101 }) (P0 D cI cR cM [.ref (g 10), .int x, .int y] sz (va_pl L f)) (QG (S := Int32 × (Nat → va_E)) (fun u => some (.int u.1)) (fun u => va_pl L u.2) (fun u => IN jn cI cR cM g L S u.2 ∧ FR S [46, 47] f u.2) D (va_A (va_pl L f) sz)) 0 0 (va_A (va_pl L f) sz) := by
  refine go (cc := cX10_whole) (maxL := 5) (ret := (some .int)) (by decide +kernel) rfl (Nat.le_of_ble_eq_true rfl) ?_
  intro p e s m below meth c ls args Q hQ hsz hx hb hr hml hts hown hlocks hnm hP hK hD hl
  subst hsz
  have hD := hD.self (sz := s.heap.size)
  generalize hAe : va_A (va_pl L f) s.heap.size = A at hD hQ
  have hA : ∀ q, s.heap.size ≤ q → A q := fun q h => by rw [← hAe]; exact Or.inr h
  have hS : va_S A s.heap s.heap [] := va_S.rf
  have hF : FR S [46, 47] f f := FR_rf
  have hl : lv_has ls 5 [(0, .ref (g 10)), (1, .int x), (2, .int y)] := hl
  refine lv_aload_n hx hb dX10_whole_0 rfl (lv_at hl 0 rfl) ?_
  have fg_1 := op_10 hI (gm_10 hG) (gs_10 hG)
  refine t_get (D := D) (L := L) (f := f) (ci := 10) (v := .ref (g 12)) (C := RX10) (T := TX10) (N := 8) hx hb hts (by decide +kernel) hown hK.1 hP (gm_10 hG) fg_1 rfl 2 (by decide) (hts (.fieldLink RX10 32 "JugglingHall" "book" "LJugglingHall$Book;") (by decide +kernel)) (fun _ h9 => h9) rfl dX10_whole_1 ?_
  obtain ⟨tm_2, lk_2, fg_2, iv0_2, iv1_2, iv2_2⟩ := op_12 hI (gm_12 hG) (gs_12 hG)
  refine roR (va_runV (As := []) (rest := []) ⟨hx, hb, hml, hown, hts⟩ (t_X0_marksSeen l D cI cR cM _  hj hG hI  ) (cwV 0 hts gX10_whole_X0_marksSeen rfl rfl rfl (by decide +kernel) ⟨Nat.le_of_ble_eq_true rfl, Nat.le_of_ble_eq_true rfl⟩) (pre_T hK hP hD (gm_12 hG) fg_2 rfl) rfl rfl hl.1 rfl (lv_room (Nat.le_of_ble_eq_true rfl)) dX10_whole_4 ⟨Nat.le_of_ble_eq_true rfl, Nat.le_of_ble_eq_true rfl⟩) hS hA hP (fun w_3 H locs hw hP hS => ?_)
  have ho_3 : (∀ z, w_3 = some z → ∃ p, isMk L S z p) := hw
  rcases x_opt w_3 with e_4 | ⟨r_4, e_4⟩
  · subst e_4
    refine W.eq (g2 := F0 m 7 ls [.null]) rfl ?_
    have hl : lv_has ls 5 [(0, .ref (g 10)), (1, .int x), (2, .int y)] := hl
    refine lv_astore_nN (lv' := [(3, .null), (0, .ref (g 10)), (1, .int x), (2, .int y)]) hx hb dX10_whole_7 rfl hl (by decide) rfl (fun ls hl => ?_)
    refine lv_aload_nN hx hb dX10_whole_8 rfl (lv_at hl 0 rfl) ?_
    refine lv_ifnullN (tgt := 22) hx hb dX10_whole_9 (by decide) ?_
    refine lv_iconst (v := (-1)) hx hb dX10_whole_22 (by decide) ?_
    have hz_5 : (-1 : Int32).toInt = (-1) := by decide
    exact g_iret ((-1 : Int32), f) hx hb hr hlocks hS rfl (⟨hI, hF⟩) hP hD hQ (Nat.le_of_ble_eq_true rfl) (Nat.le_of_ble_eq_true rfl) dX10_whole_23
  · subst e_4
    refine W.eq (g2 := F0 m 7 ls [.ref r_4]) rfl ?_
    have hl : lv_has ls 5 [(0, .ref (g 10)), (1, .int x), (2, .int y)] := hl
    obtain ⟨p_6, m_6, s_6⟩ := ho_3 _ rfl
    refine lv_astore_n (lv' := [(3, .ref r_4), (0, .ref (g 10)), (1, .int x), (2, .int y)]) hx hb dX10_whole_7 rfl hl (by decide) rfl (fun ls hl => ?_)
    refine lv_aload_n hx hb dX10_whole_8 rfl (lv_at hl 0 rfl) ?_
    refine lv_ifnull hx hb dX10_whole_9 ?_
    refine lv_iload_n hx hb dX10_whole_12 rfl (lv_at hl 2 rfl) ?_
    refine a_if_lt (u := x.toInt) (tgt := 22) hx hb dX10_whole_13 (by decide) (rfl) (fun c_7 => ?_) (fun c_7 => ?_)
    · refine lv_iconst (v := (-1)) hx hb dX10_whole_22 (by decide) ?_
      have hz_8 : (-1 : Int32).toInt = (-1) := by decide
      exact g_iret ((-1 : Int32), f) hx hb hr hlocks hS rfl (⟨hI, hF⟩) hP hD hQ (Nat.le_of_ble_eq_true rfl) (Nat.le_of_ble_eq_true rfl) dX10_whole_23
    · refine lv_iload_n hx hb dX10_whole_16 rfl (lv_at hl 2 rfl) ?_
      refine lv_bipush (v := 9) hx hb dX10_whole_17 (by decide) ?_
      refine a_icmp_le (u := x.toInt) (v := 9) (tgt := 24) hx hb dX10_whole_19 (by decide) (rfl) (by decide) (fun c_9 => ?_) (fun c_9 => ?_)
      · refine lv_aload_n hx hb dX10_whole_24 rfl (lv_at hl 1 rfl) ?_
        refine t_get (D := D) (L := L) (f := f) (ci := 10) (v := .ref (g 18)) (C := RX10) (T := TX10) (N := 8) hx hb hts (by decide +kernel) hown hK.1 hP (gm_10 hG) fg_1 rfl 7 (by decide) (hts (.fieldLink RX10 74 "JugglingHall" "filling" "LJugglingHall$Filling;") (by decide +kernel)) (fun _ h9 => h9) rfl dX10_whole_25 ?_
        refine lv_aload_n hx hb dX10_whole_28 rfl (lv_at hl 0 rfl) ?_
        refine lv_iload_n hx hb dX10_whole_29 rfl (lv_at hl 2 rfl) ?_
        have fg_10 := op_18 hI (gm_18 hG) (gs_18 hG)
        obtain ⟨cnt_11, fg_11, v1_11, v2_11, mp_11, sp_11⟩ := op_2 hI m_6 s_6
        obtain ⟨c_12, fg_12⟩ := op_3 hI mp_11 sp_11
        refine call_p (va_runV (As := [.ref r_4, .int x]) (rest := []) ⟨hx, hb, hml, hown, hts⟩ (t_X2_fill l D cI cR cM _  hj hG hI m_6 s_6 fg_11 fg_12 ) (cwV 2 hts gX10_whole_X2_fill rfl rfl rfl (by decide +kernel) ⟨Nat.le_of_ble_eq_true rfl, Nat.le_of_ble_eq_true rfl⟩) (pre_T hK hP hD (gm_18 hG) fg_10 rfl) rfl rfl hl.1 rfl (lv_room (Nat.le_of_ble_eq_true rfl)) dX10_whole_30 ⟨Nat.le_of_ble_eq_true rfl, Nat.le_of_ble_eq_true rfl⟩) hD hS hA (fun u_13 H locs hw hP hD hS => ?_)
        obtain ⟨r_13, f_13⟩ := u_13
        obtain ⟨hI, hF_13⟩ : IN jn cI cR cM g L S f_13 ∧ FR S [46, 47] f f_13 := hw
        have hP : va_P D vwCl (va_pl L f_13) H := hP
        have hD : va_D A (va_pl L f_13) := hD
        have hF := FR_tr hF hF_13 (by decide)
        have fb_14 : f_13 (g 10) = .inr (10, [.int (nI jn), .ref (g 11), .ref (g 12), .ref (g 13), .ref (g 15), .ref (g 16), .ref (g 17), .ref (g 18)]) := FR_at hF_13 (gs_10 hG) (show (10 : Nat) ∉ ([46, 47] : List Nat) by decide) fg_1
        have fb_15 : f_13 (g 12) = .inr (0, [.ref (g 20), .ref (g 21), .int tm_2, .int lk_2]) := FR_at hF_13 (gs_12 hG) (show (12 : Nat) ∉ ([46, 47] : List Nat) by decide) fg_2
        have fb_16 : f_13 (g 18) = .inr (2, [.ref (g 46), .ref (g 47)]) := FR_at hF_13 (gs_18 hG) (show (18 : Nat) ∉ ([46, 47] : List Nat) by decide) fg_10
        have fb_17 : f_13 r_4 = .inr (3, [.ref p_6, .int cnt_11]) := FR_at hF_13 s_6 (show (2 : Nat) ∉ ([46, 47] : List Nat) by decide) fg_11
        have fb_18 : f_13 p_6 = .inl (cI, 7, .inl c_12) := FR_at hF_13 sp_11 (show (3 : Nat) ∉ ([46, 47] : List Nat) by decide) fg_12
        refine lv_istore (lv' := [(4, .int r_13), (3, .ref r_4), (0, .ref (g 10)), (1, .int x), (2, .int y)]) hx hb dX10_whole_33 hl (by decide) rfl (fun ls hl => ?_)
        refine lv_iload_n hx hb dX10_whole_35 rfl (lv_at hl 4 rfl) ?_
        refine lv_iconst (v := (-1)) hx hb dX10_whole_36 (by decide) ?_
        refine a_icmp_ne (u := y.toInt) (v := (-1)) (tgt := 43) hx hb dX10_whole_37 (by decide) (rfl) (by decide) (fun c_19 => ?_) (fun c_19 => ?_)
        · refine lv_iload hx hb dX10_whole_43 (lv_at hl 0 rfl) ?_
          refine a_if_eq (u := r_13.toInt) (tgt := 60) hx hb dX10_whole_45 (by decide) (rfl) (fun c_20 => ?_) (fun c_20 => ?_)
          · refine lv_iconst (v := (-1)) hx hb dX10_whole_60 (by decide) ?_
            refine lv_goto (tgt := 73) hx hb dX10_whole_61 (by decide) ?_
            have hz_21 : (-1 : Int32).toInt = (-1) := by decide
            exact g_iret ((-1 : Int32), f_13) hx hb hr hlocks hS rfl (⟨hI, hF⟩) hP hD hQ (Nat.le_of_ble_eq_true rfl) (Nat.le_of_ble_eq_true rfl) dX10_whole_73
          · refine lv_iload_n hx hb dX10_whole_48 rfl (lv_at hl 4 rfl) ?_
            refine a_if_lt (u := y.toInt) (tgt := 60) hx hb dX10_whole_49 (by decide) (rfl) (fun c_22 => ?_) (fun c_22 => ?_)
            · refine lv_iconst (v := (-1)) hx hb dX10_whole_60 (by decide) ?_
              refine lv_goto (tgt := 73) hx hb dX10_whole_61 (by decide) ?_
              have hz_23 : (-1 : Int32).toInt = (-1) := by decide
              exact g_iret ((-1 : Int32), f_13) hx hb hr hlocks hS rfl (⟨hI, hF⟩) hP hD hQ (Nat.le_of_ble_eq_true rfl) (Nat.le_of_ble_eq_true rfl) dX10_whole_73
            · refine lv_iload_n hx hb dX10_whole_52 rfl (lv_at hl 4 rfl) ?_
              refine lv_aload_n hx hb dX10_whole_53 rfl (lv_at hl 1 rfl) ?_
              refine t_getN (D := D) (L := L) (f := f_13) (ci := 3) (v := .int cnt_11) (C := RX3) (T := TX3) (N := 2) (host := "JugglingHall") hx hb hts (by decide +kernel) hown hK.1 hP m_6 fb_17 rfl 1 (by decide) (hK.nw (.fieldLinkNest RX10 221 "JugglingHall$Marks" "count" "I" "JugglingHall") (by decide +kernel) rfl) (fun _ h9 => h9) rfl dX10_whole_54 ?_
              refine a_icmp_lt (u := y.toInt) (v := cnt_11.toInt) (tgt := 64) hx hb dX10_whole_57 (by decide) (rfl) (rfl) (fun c_24 => ?_) (fun c_24 => ?_)
              · refine lv_aload_n hx hb dX10_whole_64 rfl (lv_at hl 2 rfl) ?_
                refine t_get (D := D) (L := L) (f := f_13) (ci := 10) (v := .ref (g 18)) (C := RX10) (T := TX10) (N := 8) hx hb hts (by decide +kernel) hown hK.1 hP (gm_10 hG) fb_14 rfl 7 (by decide) (hts (.fieldLink RX10 74 "JugglingHall" "filling" "LJugglingHall$Filling;") (by decide +kernel)) (fun _ h9 => h9) rfl dX10_whole_65 ?_
                refine t_getN (D := D) (L := L) (f := f_13) (ci := 2) (v := .ref (g 47)) (C := RX2) (T := TX2) (N := 2) (host := "JugglingHall") hx hb hts (by decide +kernel) hown hK.1 hP (gm_18 hG) fb_16 rfl 1 (by decide) (hK.nw (.fieldLinkNest RX10 229 "JugglingHall$Filling" "first" "[I" "JugglingHall") (by decide +kernel) rfl) (fun _ h9 => h9) rfl dX10_whole_68 ?_
                refine lv_iload_n hx hb dX10_whole_71 rfl (lv_at hl 4 rfl) ?_
                obtain ⟨c_25, fg_25⟩ := op_47 hI (gm_47 hG) (gs_47 hG)
                refine t_iald (L := L) (f := f_13) (y := c_25) (u := y.toInt) hx hb hK.1 hP (gm_47 hG) 0 fg_25 rfl dX10_whole_72 (rfl) (by omega) (fun z_26 q_26 e_26 => ?_)
                exact g_iret (z_26, f_13) hx hb hr hlocks hS rfl (⟨hI, hF⟩) hP hD hQ (Nat.le_of_ble_eq_true rfl) (Nat.le_of_ble_eq_true rfl) dX10_whole_73
              · refine lv_iconst (v := (-1)) hx hb dX10_whole_60 (by decide) ?_
                refine lv_goto (tgt := 73) hx hb dX10_whole_61 (by decide) ?_
                have hz_27 : (-1 : Int32).toInt = (-1) := by decide
                exact g_iret ((-1 : Int32), f_13) hx hb hr hlocks hS rfl (⟨hI, hF⟩) hP hD hQ (Nat.le_of_ble_eq_true rfl) (Nat.le_of_ble_eq_true rfl) dX10_whole_73
        · refine lv_iload hx hb dX10_whole_40 (lv_at hl 0 rfl) ?_
          exact g_iret (r_13, f_13) hx hb hr hlocks hS rfl (⟨hI, hF⟩) hP hD hQ (Nat.le_of_ble_eq_true rfl) (Nat.le_of_ble_eq_true rfl) dX10_whole_42
      · refine lv_iconst (v := (-1)) hx hb dX10_whole_22 (by decide) ?_
        have hz_28 : (-1 : Int32).toInt = (-1) := by decide
        exact g_iret ((-1 : Int32), f) hx hb hr hlocks hS rfl (⟨hI, hF⟩) hP hD hQ (Nat.le_of_ble_eq_true rfl) (Nat.le_of_ble_eq_true rfl) dX10_whole_23
set_option maxRecDepth 100000 in
set_option maxHeartbeats 4000000 in
theorem t_X10_turned (l : Launch) (D : va_G) (cI cR cM : ClassId) (sz : Nat) {jn : Nat} {g : Nat → Nat} {L : List Nat} {S : Sg} {f : Nat → va_E} {x y : Int32}  (hj : 1 ≤ jn ∧ jn ≤ 3) (hG : SG g L S) (hI : IN jn cI cR cM g L S f)  : Met l yX10_turned wsX10_turned ({ frames := 3, cells := 0, slots := 0, locals := 67 }) (P0 D cI cR cM [.ref (g 10), .int x, .int y] sz (va_pl L f)) (QP (fun r => True) sz) 0 0 (va_A [] sz) := by
  refine go (cc := cX10_turned) (maxL := 6) (ret := (some .int)) (by decide +kernel) rfl (Nat.le_of_ble_eq_true rfl) ?_
  intro p e s m below meth c ls args Q hQ hsz hx hb hr hml hts hown hlocks hnm hP hK hD hl
  subst hsz
  have hS : va_S (va_A [] s.heap.size) s.heap s.heap [] := va_S.rf
  have hA : ∀ q, s.heap.size ≤ q → va_A [] s.heap.size q := fun q h => Or.inr h
  have hl : lv_has ls 6 [(0, .ref (g 10)), (1, .int x), (2, .int y)] := hl
  refine lv_aload_n hx hb dX10_turned_0 rfl (lv_at hl 0 rfl) ?_
  have fg_1 := op_10 hI (gm_10 hG) (gs_10 hG)
  refine t_get (D := D) (L := L) (f := f) (ci := 10) (v := .ref (g 12)) (C := RX10) (T := TX10) (N := 8) hx hb hts (by decide +kernel) hown hK.1 hP (gm_10 hG) fg_1 rfl 2 (by decide) (hts (.fieldLink RX10 32 "JugglingHall" "book" "LJugglingHall$Book;") (by decide +kernel)) (fun _ h9 => h9) rfl dX10_turned_1 ?_
  refine lv_iload_n hx hb dX10_turned_4 rfl (lv_at hl 1 rfl) ?_
  obtain ⟨tm_2, lk_2, fg_2, iv0_2, iv1_2, iv2_2⟩ := op_12 hI (gm_12 hG) (gs_12 hG)
  refine roR (va_runV (As := [.int x]) (rest := []) ⟨hx, hb, hml, hown, hts⟩ (t_X0_rowSeen l D cI cR cM _  hj hG hI  ) (cwV 1 hts gX10_turned_X0_rowSeen rfl rfl rfl (by decide +kernel) ⟨Nat.le_of_ble_eq_true rfl, Nat.le_of_ble_eq_true rfl⟩) (pre_T hK hP hD (gm_12 hG) fg_2 rfl) rfl rfl hl.1 rfl (lv_room (Nat.le_of_ble_eq_true rfl)) dX10_turned_5 ⟨Nat.le_of_ble_eq_true rfl, Nat.le_of_ble_eq_true rfl⟩) hS hA hP (fun w_3 H locs hw hP hS => ?_)
  have ho_3 : (∀ z, w_3 = some z → ∃ p n, isRow L S z p n) := hw
  rcases x_opt w_3 with e_4 | ⟨r_4, e_4⟩
  · subst e_4
    refine W.eq (g2 := F0 m 8 ls [.null]) rfl ?_
    have hl : lv_has ls 6 [(0, .ref (g 10)), (1, .int x), (2, .int y)] := hl
    refine lv_astore_nN (lv' := [(3, .null), (0, .ref (g 10)), (1, .int x), (2, .int y)]) hx hb dX10_turned_8 rfl hl (by decide) rfl (fun ls hl => ?_)
    refine lv_aload_n hx hb dX10_turned_9 rfl (lv_at hl 1 rfl) ?_
    refine t_get (D := D) (L := L) (f := f) (ci := 10) (v := .ref (g 12)) (C := RX10) (T := TX10) (N := 8) hx hb hts (by decide +kernel) hown hK.1 hP (gm_10 hG) fg_1 rfl 2 (by decide) (hts (.fieldLink RX10 32 "JugglingHall" "book" "LJugglingHall$Book;") (by decide +kernel)) (fun _ h9 => h9) rfl dX10_turned_10 ?_
    refine lv_iload_n hx hb dX10_turned_13 rfl (lv_at hl 3 rfl) ?_
    refine roR (va_runV (As := [.int y]) (rest := []) ⟨hx, hb, hml, hown, hts⟩ (t_X0_rowSeen l D cI cR cM _  hj hG hI  ) (cwV 1 hts gX10_turned_X0_rowSeen rfl rfl rfl (by decide +kernel) ⟨Nat.le_of_ble_eq_true rfl, Nat.le_of_ble_eq_true rfl⟩) (pre_T hK hP hD (gm_12 hG) fg_2 rfl) rfl rfl hl.1 rfl (lv_room (Nat.le_of_ble_eq_true rfl)) dX10_turned_14 ⟨Nat.le_of_ble_eq_true rfl, Nat.le_of_ble_eq_true rfl⟩) hS hA hP (fun w_5 H locs hw hP hS => ?_)
    have ho_5 : (∀ z, w_5 = some z → ∃ p n, isRow L S z p n) := hw
    rcases x_opt w_5 with e_6 | ⟨r_6, e_6⟩
    · subst e_6
      refine W.eq (g2 := F0 m 17 ls [.null]) rfl ?_
      have hl : lv_has ls 6 [(3, .null), (0, .ref (g 10)), (1, .int x), (2, .int y)] := hl
      refine lv_astoreN (lv' := [(4, .null), (3, .null), (0, .ref (g 10)), (1, .int x), (2, .int y)]) hx hb dX10_turned_17 hl (by decide) rfl (fun ls hl => ?_)
      refine lv_aload_nN hx hb dX10_turned_19 rfl (lv_at hl 1 rfl) ?_
      refine lv_ifnullN (tgt := 40) hx hb dX10_turned_20 (by decide) ?_
      refine lv_iconst (v := (-1)) hx hb dX10_turned_40 (by decide) ?_
      have hz_7 : (-1 : Int32).toInt = (-1) := by decide
      exact rp_iret hx hb hr hlocks hS (trivial) hQ dX10_turned_41
    · subst e_6
      refine W.eq (g2 := F0 m 17 ls [.ref r_6]) rfl ?_
      have hl : lv_has ls 6 [(3, .null), (0, .ref (g 10)), (1, .int x), (2, .int y)] := hl
      obtain ⟨p_8, n_8, m_8, s_8⟩ := ho_5 _ rfl
      refine lv_astore (lv' := [(4, .ref r_6), (3, .null), (0, .ref (g 10)), (1, .int x), (2, .int y)]) hx hb dX10_turned_17 hl (by decide) rfl (fun ls hl => ?_)
      refine lv_aload_nN hx hb dX10_turned_19 rfl (lv_at hl 1 rfl) ?_
      refine lv_ifnullN (tgt := 40) hx hb dX10_turned_20 (by decide) ?_
      refine lv_iconst (v := (-1)) hx hb dX10_turned_40 (by decide) ?_
      have hz_9 : (-1 : Int32).toInt = (-1) := by decide
      exact rp_iret hx hb hr hlocks hS (trivial) hQ dX10_turned_41
  · subst e_4
    refine W.eq (g2 := F0 m 8 ls [.ref r_4]) rfl ?_
    have hl : lv_has ls 6 [(0, .ref (g 10)), (1, .int x), (2, .int y)] := hl
    obtain ⟨p_10, n_10, m_10, s_10⟩ := ho_3 _ rfl
    refine lv_astore_n (lv' := [(3, .ref r_4), (0, .ref (g 10)), (1, .int x), (2, .int y)]) hx hb dX10_turned_8 rfl hl (by decide) rfl (fun ls hl => ?_)
    refine lv_aload_n hx hb dX10_turned_9 rfl (lv_at hl 1 rfl) ?_
    refine t_get (D := D) (L := L) (f := f) (ci := 10) (v := .ref (g 12)) (C := RX10) (T := TX10) (N := 8) hx hb hts (by decide +kernel) hown hK.1 hP (gm_10 hG) fg_1 rfl 2 (by decide) (hts (.fieldLink RX10 32 "JugglingHall" "book" "LJugglingHall$Book;") (by decide +kernel)) (fun _ h9 => h9) rfl dX10_turned_10 ?_
    refine lv_iload_n hx hb dX10_turned_13 rfl (lv_at hl 3 rfl) ?_
    refine roR (va_runV (As := [.int y]) (rest := []) ⟨hx, hb, hml, hown, hts⟩ (t_X0_rowSeen l D cI cR cM _  hj hG hI  ) (cwV 1 hts gX10_turned_X0_rowSeen rfl rfl rfl (by decide +kernel) ⟨Nat.le_of_ble_eq_true rfl, Nat.le_of_ble_eq_true rfl⟩) (pre_T hK hP hD (gm_12 hG) fg_2 rfl) rfl rfl hl.1 rfl (lv_room (Nat.le_of_ble_eq_true rfl)) dX10_turned_14 ⟨Nat.le_of_ble_eq_true rfl, Nat.le_of_ble_eq_true rfl⟩) hS hA hP (fun w_11 H locs hw hP hS => ?_)
    have ho_11 : (∀ z, w_11 = some z → ∃ p n, isRow L S z p n) := hw
    rcases x_opt w_11 with e_12 | ⟨r_12, e_12⟩
    · subst e_12
      refine W.eq (g2 := F0 m 17 ls [.null]) rfl ?_
      have hl : lv_has ls 6 [(3, .ref r_4), (0, .ref (g 10)), (1, .int x), (2, .int y)] := hl
      refine lv_astoreN (lv' := [(4, .null), (3, .ref r_4), (0, .ref (g 10)), (1, .int x), (2, .int y)]) hx hb dX10_turned_17 hl (by decide) rfl (fun ls hl => ?_)
      refine lv_aload_n hx hb dX10_turned_19 rfl (lv_at hl 1 rfl) ?_
      refine lv_ifnull hx hb dX10_turned_20 ?_
      refine lv_aloadN hx hb dX10_turned_23 (lv_at hl 0 rfl) ?_
      refine lv_ifnullN (tgt := 40) hx hb dX10_turned_25 (by decide) ?_
      refine lv_iconst (v := (-1)) hx hb dX10_turned_40 (by decide) ?_
      have hz_13 : (-1 : Int32).toInt = (-1) := by decide
      exact rp_iret hx hb hr hlocks hS (trivial) hQ dX10_turned_41
    · subst e_12
      refine W.eq (g2 := F0 m 17 ls [.ref r_12]) rfl ?_
      have hl : lv_has ls 6 [(3, .ref r_4), (0, .ref (g 10)), (1, .int x), (2, .int y)] := hl
      obtain ⟨p_14, n_14, m_14, s_14⟩ := ho_11 _ rfl
      refine lv_astore (lv' := [(4, .ref r_12), (3, .ref r_4), (0, .ref (g 10)), (1, .int x), (2, .int y)]) hx hb dX10_turned_17 hl (by decide) rfl (fun ls hl => ?_)
      refine lv_aload_n hx hb dX10_turned_19 rfl (lv_at hl 1 rfl) ?_
      refine lv_ifnull hx hb dX10_turned_20 ?_
      refine lv_aload hx hb dX10_turned_23 (lv_at hl 0 rfl) ?_
      refine lv_ifnull hx hb dX10_turned_25 ?_
      refine lv_aload_n hx hb dX10_turned_28 rfl (lv_at hl 1 rfl) ?_
      obtain ⟨len_15, fg_15, v1_15, v2_15, v3_15, mp_15, sp_15⟩ := op_0 hI m_10 s_10
      obtain ⟨w1_15, w2_15, w3_15, w4_15, w5_15⟩ := lenw hj v1_15 v2_15 v3_15
      refine t_getN (D := D) (L := L) (f := f) (ci := 5) (v := .int len_15) (C := RX5) (T := TX5) (N := 4) (host := "JugglingHall") hx hb hts (by decide +kernel) hown hK.1 hP m_10 fg_15 rfl 3 (by decide) (hK.nw (.fieldLinkNest RX10 115 "JugglingHall$Row" "length" "I" "JugglingHall") (by decide +kernel) rfl) (fun _ h9 => h9) rfl dX10_turned_29 ?_
      refine lv_aload hx hb dX10_turned_32 (lv_at hl 0 rfl) ?_
      obtain ⟨len_16, fg_16, v1_16, v2_16, v3_16, mp_16, sp_16⟩ := op_0 hI m_14 s_14
      obtain ⟨w1_16, w2_16, w3_16, w4_16, w5_16⟩ := lenw hj v1_16 v2_16 v3_16
      refine t_getN (D := D) (L := L) (f := f) (ci := 5) (v := .int len_16) (C := RX5) (T := TX5) (N := 4) (host := "JugglingHall") hx hb hts (by decide +kernel) hown hK.1 hP m_14 fg_16 rfl 3 (by decide) (hK.nw (.fieldLinkNest RX10 115 "JugglingHall$Row" "length" "I" "JugglingHall") (by decide +kernel) rfl) (fun _ h9 => h9) rfl dX10_turned_34 ?_
      refine a_icmp_eq (u := len_15.toInt) (v := len_16.toInt) (tgt := 42) hx hb dX10_turned_37 (by decide) (rfl) (rfl) (fun c_17 => ?_) (fun c_17 => ?_)
      · refine lv_iconst (v := 0) hx hb dX10_turned_42 (by decide) ?_
        refine lv_istore (lv' := [(5, .int 0), (4, .ref r_12), (3, .ref r_4), (0, .ref (g 10)), (1, .int x), (2, .int y)]) hx hb dX10_turned_43 hl (by decide) rfl (fun ls hl => ?_)
        have loop45 : ∀ (ddloop45 : Nat) (dd : Int32) (H : Heap) (locs : List Loc) (ls : Array Slot), (100 - dd.toInt).toNat < ddloop45 → (0 ≤ dd.toInt ∧ dd.toInt ≤ 72) → va_P D vwCl (va_pl L f) H → va_S (va_A [] s.heap.size) s.heap H locs → lv_has ls 6 [(0, .ref (g 10)), (1, .int x), (2, .int y), (3, .ref r_4), (4, .ref r_12), (5, .int dd)] → W p l e ({ frames := 3, cells := 0, slots := 0, locals := 67 }) s m args below meth c H locs (0) (0) Q (F0 m 45 ls []) := by
          intro ddloop45
          induction ddloop45 with
          | zero =>
            intro dd H locs ls hdd
            exact absurd hdd (Nat.not_lt_zero _)
          | succ ddloop45 ih45 =>
            intro dd H locs ls hdd hi hP hS hl
            refine lv_iload hx hb dX10_turned_45 (lv_at hl 5 rfl) ?_
            refine lv_aload_n hx hb dX10_turned_47 rfl (lv_at hl 3 rfl) ?_
            refine t_getN (D := D) (L := L) (f := f) (ci := 5) (v := .int len_15) (C := RX5) (T := TX5) (N := 4) (host := "JugglingHall") hx hb hts (by decide +kernel) hown hK.1 hP m_10 fg_15 rfl 3 (by decide) (hK.nw (.fieldLinkNest RX10 115 "JugglingHall$Row" "length" "I" "JugglingHall") (by decide +kernel) rfl) (fun _ h9 => h9) rfl dX10_turned_48 ?_
            refine a_icmp_ge (u := dd.toInt) (v := len_15.toInt) (tgt := 74) hx hb dX10_turned_51 (by decide) (rfl) (rfl) (fun c_19 => ?_) (fun c_19 => ?_)
            · refine lv_iconst (v := (-1)) hx hb dX10_turned_74 (by decide) ?_
              have hz_20 : (-1 : Int32).toInt = (-1) := by decide
              exact rp_iret hx hb hr hlocks hS (trivial) hQ dX10_turned_75
            · refine lv_aload_n hx hb dX10_turned_54 rfl (lv_at hl 3 rfl) ?_
              refine lv_aload hx hb dX10_turned_55 (lv_at hl 4 rfl) ?_
              refine lv_iload hx hb dX10_turned_57 (lv_at hl 5 rfl) ?_
              obtain ⟨c_21, fg_21, iv0_21⟩ := op_1 hI mp_15 sp_15
              obtain ⟨c_22, fg_22, iv0_22⟩ := op_1 hI mp_16 sp_16
              refine roP (va_runV (As := [.ref r_12, .int dd]) (rest := []) ⟨hx, hb, hml, hown, hts⟩ (t_X5_isTurned l D cI cR cM _  hj hG hI m_10 s_10 fg_15 fg_21 m_14 s_14 fg_16 fg_22 (by first | assumption | omega)) (cwV 2 hts gX10_turned_X5_isTurned rfl rfl rfl (by decide +kernel) ⟨Nat.le_of_ble_eq_true rfl, Nat.le_of_ble_eq_true rfl⟩) (pre_T hK hP hD m_10 fg_15 rfl) rfl rfl hl.1 rfl (lv_room (Nat.le_of_ble_eq_true rfl)) dX10_turned_59 ⟨Nat.le_of_ble_eq_true rfl, Nat.le_of_ble_eq_true rfl⟩) hS hA hP (fun r_23 H locs hw hP hS => ?_)
              have h01_23 : (r_23.toInt = 0 ∨ r_23.toInt = 1) := hw
              refine a_if_eq (u := r_23.toInt) (tgt := 68) hx hb dX10_turned_62 (by decide) (rfl) (fun c_24 => ?_) (fun c_24 => ?_)
              · obtain ⟨z_25, q_25, e_25⟩ := i_inc (a := dd.toInt) (1) (rfl) (by decide) (by omega) (by omega)
                refine lv_iinc (v := z_25) (lv' := [(5, .int z_25), (0, .ref (g 10)), (1, .int x), (2, .int y), (3, .ref r_4), (4, .ref r_12)]) hx hb dX10_turned_68 hl (k := 5) rfl q_25 (by decide) rfl (fun ls hl => ?_)
                refine lv_goto (tgt := 45) hx hb dX10_turned_71 (by decide) ?_
                exact ih45 z_25 _ _ _ (by omega) (by first | assumption | omega) hP hS (lv_sub hl [1, 2, 3, 4, 5, 0] rfl)
              · refine lv_iload hx hb dX10_turned_65 (lv_at hl 5 rfl) ?_
                exact rp_iret hx hb hr hlocks hS (trivial) hQ dX10_turned_67
        have hz_26 : (0 : Int32).toInt = 0 := by decide
        exact loop45 ((100 - (0 : Int32).toInt).toNat + 1) (0 : Int32) _ _ _ (by omega) (by first | assumption | omega) hP hS (lv_sub hl [3, 4, 5, 2, 1, 0] rfl)
      · refine lv_iconst (v := (-1)) hx hb dX10_turned_40 (by decide) ?_
        have hz_27 : (-1 : Int32).toInt = (-1) := by decide
        exact rp_iret hx hb hr hlocks hS (trivial) hQ dX10_turned_41
set_option maxRecDepth 100000 in
set_option maxHeartbeats 4000000 in
theorem t_X10_about (l : Launch) (D : va_G) (cI cR cM : ClassId) (sz : Nat) {jn : Nat} {g : Nat → Nat} {L : List Nat} {S : Sg} {f : Nat → va_E} {x : Int32}  (hj : 1 ≤ jn ∧ jn ≤ 3) (hG : SG g L S) (hI : IN jn cI cR cM g L S f)  : Met l yX10_about wsX10_about ({ frames := 3, cells := 0, slots := 0, locals := 65 }) (P0 D cI cR cM [.ref (g 10), .int x] sz (va_pl L f)) (QP (fun r => True) sz) 0 0 (va_A [] sz) := by
  refine go (cc := cX10_about) (maxL := 2) (ret := (some .int)) (by decide +kernel) rfl (Nat.le_of_ble_eq_true rfl) ?_
  intro p e s m below meth c ls args Q hQ hsz hx hb hr hml hts hown hlocks hnm hP hK hD hl
  subst hsz
  have hS : va_S (va_A [] s.heap.size) s.heap s.heap [] := va_S.rf
  have hA : ∀ q, s.heap.size ≤ q → va_A [] s.heap.size q := fun q h => Or.inr h
  have hl : lv_has ls 2 [(0, .ref (g 10)), (1, .int x)] := hl
  refine lv_iload_n hx hb dX10_about_0 rfl (lv_at hl 1 rfl) ?_
  have hu_1 : x.toInt = x.toInt := rfl
  rcases (show (x.toInt < 0 ∨ 5 < x.toInt) ∨ (x.toInt = 0) ∨ (x.toInt = 1) ∨ (x.toInt = 2) ∨ (x.toInt = 3) ∨ (x.toInt = 4) ∨ (x.toInt = 5) by omega) with c_1 | c_1 | c_1 | c_1 | c_1 | c_1 | c_1
  · refine lv_tableOut (tgt := 85) hx hb dX10_about_1 (by omega) (by decide) ?_
    refine lv_iconst (v := (-1)) hx hb dX10_about_85 (by decide) ?_
    have hz_2 : (-1 : Int32).toInt = (-1) := by decide
    exact rp_iret hx hb hr hlocks hS (trivial) hQ dX10_about_86
  · refine lv_tableIn (off := 39) (tgt := 40) hx hb dX10_about_1 (by omega) (by omega) (by rw [show (x.toInt - 0).toNat = 0 by omega]; rfl) (by decide) ?_
    refine lv_aload_n hx hb dX10_about_40 rfl (lv_at hl 0 rfl) ?_
    have fg_3 := op_10 hI (gm_10 hG) (gs_10 hG)
    refine t_get (D := D) (L := L) (f := f) (ci := 10) (v := .int (nI jn)) (C := RX10) (T := TX10) (N := 8) hx hb hts (by decide +kernel) hown hK.1 hP (gm_10 hG) fg_3 rfl 0 (by decide) (hts (.fieldLink RX10 18 "JugglingHall" "jugglers" "I") (by decide +kernel)) (fun _ h9 => h9) rfl dX10_about_41 ?_
    have hz_4 : (nI jn).toInt = (jn : Int) := nI_toInt (by omega)
    exact rp_iret hx hb hr hlocks hS (trivial) hQ dX10_about_44
  · refine lv_tableIn (off := 44) (tgt := 45) hx hb dX10_about_1 (by omega) (by omega) (by rw [show (x.toInt - 0).toNat = 1 by omega]; rfl) (by decide) ?_
    refine lv_aload_n hx hb dX10_about_45 rfl (lv_at hl 0 rfl) ?_
    have fg_5 := op_10 hI (gm_10 hG) (gs_10 hG)
    refine t_get (D := D) (L := L) (f := f) (ci := 10) (v := .ref (g 12)) (C := RX10) (T := TX10) (N := 8) hx hb hts (by decide +kernel) hown hK.1 hP (gm_10 hG) fg_5 rfl 2 (by decide) (hts (.fieldLink RX10 32 "JugglingHall" "book" "LJugglingHall$Book;") (by decide +kernel)) (fun _ h9 => h9) rfl dX10_about_46 ?_
    obtain ⟨tm_6, lk_6, fg_6, iv0_6, iv1_6, iv2_6⟩ := op_12 hI (gm_12 hG) (gs_12 hG)
    refine t_getN (D := D) (L := L) (f := f) (ci := 0) (v := .int tm_6) (C := RX0) (T := TX0) (N := 4) (host := "JugglingHall") hx hb hts (by decide +kernel) hown hK.1 hP (gm_12 hG) fg_6 rfl 2 (by decide) (hK.nw (.fieldLinkNest RX10 99 "JugglingHall$Book" "time" "I" "JugglingHall") (by decide +kernel) rfl) (fun _ h9 => h9) rfl dX10_about_49 ?_
    exact rp_iret hx hb hr hlocks hS (trivial) hQ dX10_about_52
  · refine lv_tableIn (off := 52) (tgt := 53) hx hb dX10_about_1 (by omega) (by omega) (by rw [show (x.toInt - 0).toNat = 2 by omega]; rfl) (by decide) ?_
    refine lv_aload_n hx hb dX10_about_53 rfl (lv_at hl 0 rfl) ?_
    have fg_7 := op_10 hI (gm_10 hG) (gs_10 hG)
    refine t_get (D := D) (L := L) (f := f) (ci := 10) (v := .ref (g 12)) (C := RX10) (T := TX10) (N := 8) hx hb hts (by decide +kernel) hown hK.1 hP (gm_10 hG) fg_7 rfl 2 (by decide) (hts (.fieldLink RX10 32 "JugglingHall" "book" "LJugglingHall$Book;") (by decide +kernel)) (fun _ h9 => h9) rfl dX10_about_54 ?_
    obtain ⟨tm_8, lk_8, fg_8, iv0_8, iv1_8, iv2_8⟩ := op_12 hI (gm_12 hG) (gs_12 hG)
    refine t_getN (D := D) (L := L) (f := f) (ci := 0) (v := .int lk_8) (C := RX0) (T := TX0) (N := 4) (host := "JugglingHall") hx hb hts (by decide +kernel) hown hK.1 hP (gm_12 hG) fg_8 rfl 3 (by decide) (hK.nw (.fieldLinkNest RX10 108 "JugglingHall$Book" "lookTime" "I" "JugglingHall") (by decide +kernel) rfl) (fun _ h9 => h9) rfl dX10_about_57 ?_
    exact rp_iret hx hb hr hlocks hS (trivial) hQ dX10_about_60
  · refine lv_tableIn (off := 60) (tgt := 61) hx hb dX10_about_1 (by omega) (by omega) (by rw [show (x.toInt - 0).toNat = 3 by omega]; rfl) (by decide) ?_
    refine lv_aload_n hx hb dX10_about_61 rfl (lv_at hl 0 rfl) ?_
    have fg_9 := op_10 hI (gm_10 hG) (gs_10 hG)
    refine t_get (D := D) (L := L) (f := f) (ci := 10) (v := .ref (g 11)) (C := RX10) (T := TX10) (N := 8) hx hb hts (by decide +kernel) hown hK.1 hP (gm_10 hG) fg_9 rfl 1 (by decide) (hts (.fieldLink RX10 25 "JugglingHall" "tape" "LJugglingHall$Tape;") (by decide +kernel)) (fun _ h9 => h9) rfl dX10_about_62 ?_
    obtain ⟨len_10, fg_10, iv0_10, iv1_10⟩ := op_11 hI (gm_11 hG) (gs_11 hG)
    refine t_getN (D := D) (L := L) (f := f) (ci := 7) (v := .int len_10) (C := RX7) (T := TX7) (N := 2) (host := "JugglingHall") hx hb hts (by decide +kernel) hown hK.1 hP (gm_11 hG) fg_10 rfl 1 (by decide) (hK.nw (.fieldLinkNest RX10 86 "JugglingHall$Tape" "length" "I" "JugglingHall") (by decide +kernel) rfl) (fun _ h9 => h9) rfl dX10_about_65 ?_
    exact rp_iret hx hb hr hlocks hS (trivial) hQ dX10_about_68
  · refine lv_tableIn (off := 68) (tgt := 69) hx hb dX10_about_1 (by omega) (by omega) (by rw [show (x.toInt - 0).toNat = 4 by omega]; rfl) (by decide) ?_
    refine lv_aload_n hx hb dX10_about_69 rfl (lv_at hl 0 rfl) ?_
    have fg_11 := op_10 hI (gm_10 hG) (gs_10 hG)
    refine t_get (D := D) (L := L) (f := f) (ci := 10) (v := .ref (g 17)) (C := RX10) (T := TX10) (N := 8) hx hb hts (by decide +kernel) hown hK.1 hP (gm_10 hG) fg_11 rfl 6 (by decide) (hts (.fieldLink RX10 67 "JugglingHall" "sheet" "LJugglingHall$Sheet;") (by decide +kernel)) (fun _ h9 => h9) rfl dX10_about_70 ?_
    obtain ⟨len_12, st_12, fg_12, iv0_12, iv1_12⟩ := op_17 hI (gm_17 hG) (gs_17 hG)
    refine t_getN (D := D) (L := L) (f := f) (ci := 6) (v := .int len_12) (C := RX6) (T := TX6) (N := 4) (host := "JugglingHall") hx hb hts (by decide +kernel) hown hK.1 hP (gm_17 hG) fg_12 rfl 2 (by decide) (hK.nw (.fieldLinkNest RX10 200 "JugglingHall$Sheet" "length" "I" "JugglingHall") (by decide +kernel) rfl) (fun _ h9 => h9) rfl dX10_about_73 ?_
    exact rp_iret hx hb hr hlocks hS (trivial) hQ dX10_about_76
  · refine lv_tableIn (off := 76) (tgt := 77) hx hb dX10_about_1 (by omega) (by omega) (by rw [show (x.toInt - 0).toNat = 5 by omega]; rfl) (by decide) ?_
    refine lv_aload_n hx hb dX10_about_77 rfl (lv_at hl 0 rfl) ?_
    have fg_13 := op_10 hI (gm_10 hG) (gs_10 hG)
    refine t_get (D := D) (L := L) (f := f) (ci := 10) (v := .ref (g 12)) (C := RX10) (T := TX10) (N := 8) hx hb hts (by decide +kernel) hown hK.1 hP (gm_10 hG) fg_13 rfl 2 (by decide) (hts (.fieldLink RX10 32 "JugglingHall" "book" "LJugglingHall$Book;") (by decide +kernel)) (fun _ h9 => h9) rfl dX10_about_78 ?_
    obtain ⟨tm_14, lk_14, fg_14, iv0_14, iv1_14, iv2_14⟩ := op_12 hI (gm_12 hG) (gs_12 hG)
    refine roP (va_runV (As := []) (rest := []) ⟨hx, hb, hml, hown, hts⟩ (t_X0_lettersSeen l D cI cR cM _  hj hG hI  ) (cwV 0 hts gX10_about_X0_lettersSeen rfl rfl rfl (by decide +kernel) ⟨Nat.le_of_ble_eq_true rfl, Nat.le_of_ble_eq_true rfl⟩) (pre_T hK hP hD (gm_12 hG) fg_14 rfl) rfl rfl hl.1 rfl (lv_room (Nat.le_of_ble_eq_true rfl)) dX10_about_81 ⟨Nat.le_of_ble_eq_true rfl, Nat.le_of_ble_eq_true rfl⟩) hS hA hP (fun r_15 H locs hw hP hS => ?_)
    exact rp_iret hx hb hr hlocks hS (trivial) hQ dX10_about_84
set_option maxRecDepth 100000 in
set_option maxHeartbeats 4000000 in
theorem t_X10_drop (l : Launch) (D : va_G) (cI cR cM : ClassId) (sz : Nat) {jn : Nat} {g : Nat → Nat} {L : List Nat} {S : Sg} {f : Nat → va_E} {x y v : Int32}  (hj : 1 ≤ jn ∧ jn ≤ 3) (hG : SG g L S) (hI : IN jn cI cR cM g L S f)  : Met l yX10_drop wsX10_drop ({ frames := 5, cells := 2, slots := 148, locals := 109 }) (P0 D cI cR cM [.ref (g 10), .int x, .int y, .int v] sz (va_pl L f)) (QG (S := Int32 × List Nat × Sg × (Nat → va_E)) (fun u => some (.int u.1)) (fun u => va_pl (u.2.1) (u.2.2.2)) (fun u => EXT L S u.2.1 u.2.2.1 ∧ IN jn cI cR cM g u.2.1 u.2.2.1 u.2.2.2 ∧ FRX L S [0, 1, 12, 20, 21, 15, 27, 35, 36, 37, 38, 39] f (u.2.2.2)) D (va_A (va_pl L f) sz)) 2 148 (va_A (va_pl L f) sz) := by
  refine go (cc := cX10_drop) (maxL := 6) (ret := (some .int)) (by decide +kernel) rfl (Nat.le_of_ble_eq_true rfl) ?_
  intro p e s m below meth c ls args Q hQ hsz hx hb hr hml hts hown hlocks hnm hP hK hD hl
  subst hsz
  have hD := hD.self (sz := s.heap.size)
  generalize hAe : va_A (va_pl L f) s.heap.size = A at hD hQ
  have hA : ∀ q, s.heap.size ≤ q → A q := fun q h => by rw [← hAe]; exact Or.inr h
  have hS : va_S A s.heap s.heap [] := va_S.rf
  obtain ⟨L0, eL0⟩ : ∃ x, x = L := ⟨_, rfl⟩
  obtain ⟨S0, eS0⟩ : ∃ x, x = S := ⟨_, rfl⟩
  have hX : EXT L0 S0 L S := by rw [eL0, eS0]; exact EXT_rf
  have hF : FRX L0 S0 [0, 1, 12, 20, 21, 15, 27, 35, 36, 37, 38, 39] f f := FRX_rf
  have hl : lv_has ls 6 [(0, .ref (g 10)), (1, .int x), (2, .int y), (3, .int v)] := hl
  refine lv_aload_n hx hb dX10_drop_0 rfl (lv_at hl 0 rfl) ?_
  have fg_1 := op_10 hI (gm_10 hG) (gs_10 hG)
  refine t_get (D := D) (L := L) (f := f) (ci := 10) (v := .ref (g 12)) (C := RX10) (T := TX10) (N := 8) hx hb hts (by decide +kernel) hown hK.1 hP (gm_10 hG) fg_1 rfl 2 (by decide) (hts (.fieldLink RX10 32 "JugglingHall" "book" "LJugglingHall$Book;") (by decide +kernel)) (fun _ h9 => h9) rfl dX10_drop_1 ?_
  refine lv_iload_n hx hb dX10_drop_4 rfl (lv_at hl 1 rfl) ?_
  obtain ⟨tm_2, lk_2, fg_2, iv0_2, iv1_2, iv2_2⟩ := op_12 hI (gm_12 hG) (gs_12 hG)
  refine roR (va_runV (As := [.int x]) (rest := []) ⟨hx, hb, hml, hown, hts⟩ (t_X0_rowSeen l D cI cR cM _  hj hG hI  ) (cwV 1 hts gX10_drop_X0_rowSeen rfl rfl rfl (by decide +kernel) ⟨Nat.le_of_ble_eq_true rfl, Nat.le_of_ble_eq_true rfl⟩) (pre_T hK hP hD (gm_12 hG) fg_2 rfl) rfl rfl hl.1 rfl (lv_room (Nat.le_of_ble_eq_true rfl)) dX10_drop_5 ⟨Nat.le_of_ble_eq_true rfl, Nat.le_of_ble_eq_true rfl⟩) hS hA hP (fun w_3 H locs hw hP hS => ?_)
  have ho_3 : (∀ z, w_3 = some z → ∃ p n, isRow L S z p n) := hw
  rcases x_opt w_3 with e_4 | ⟨r_4, e_4⟩
  · subst e_4
    refine W.eq (g2 := F0 m 8 ls [.null]) rfl ?_
    have hl : lv_has ls 6 [(0, .ref (g 10)), (1, .int x), (2, .int y), (3, .int v)] := hl
    refine lv_astoreN (lv' := [(4, .null), (0, .ref (g 10)), (1, .int x), (2, .int y), (3, .int v)]) hx hb dX10_drop_8 hl (by decide) rfl (fun ls hl => ?_)
    refine lv_iload_n hx hb dX10_drop_10 rfl (lv_at hl 4 rfl) ?_
    refine a_if_lt (u := v.toInt) (tgt := 47) hx hb dX10_drop_11 (by decide) (rfl) (fun c_5 => ?_) (fun c_5 => ?_)
    · refine lv_iconst (v := (-1)) hx hb dX10_drop_47 (by decide) ?_
      have hz_6 : (-1 : Int32).toInt = (-1) := by decide
      exact g_iret ((-1 : Int32), L, S, f) hx hb hr hlocks hS rfl (⟨EXT_c eL0 eS0 hX, hI, FRX_c eL0 eS0 hF⟩) hP hD hQ (Nat.le_of_ble_eq_true rfl) (Nat.le_of_ble_eq_true rfl) dX10_drop_48
    · refine lv_iload_n hx hb dX10_drop_14 rfl (lv_at hl 4 rfl) ?_
      refine lv_bipush (v := 8) hx hb dX10_drop_15 (by decide) ?_
      refine a_icmp_ge (u := v.toInt) (v := 8) (tgt := 47) hx hb dX10_drop_17 (by decide) (rfl) (by decide) (fun c_7 => ?_) (fun c_7 => ?_)
      · refine lv_iconst (v := (-1)) hx hb dX10_drop_47 (by decide) ?_
        have hz_8 : (-1 : Int32).toInt = (-1) := by decide
        exact g_iret ((-1 : Int32), L, S, f) hx hb hr hlocks hS rfl (⟨EXT_c eL0 eS0 hX, hI, FRX_c eL0 eS0 hF⟩) hP hD hQ (Nat.le_of_ble_eq_true rfl) (Nat.le_of_ble_eq_true rfl) dX10_drop_48
      · refine lv_aload_n hx hb dX10_drop_20 rfl (lv_at hl 1 rfl) ?_
        refine t_get (D := D) (L := L) (f := f) (ci := 10) (v := .ref (g 12)) (C := RX10) (T := TX10) (N := 8) hx hb hts (by decide +kernel) hown hK.1 hP (gm_10 hG) fg_1 rfl 2 (by decide) (hts (.fieldLink RX10 32 "JugglingHall" "book" "LJugglingHall$Book;") (by decide +kernel)) (fun _ h9 => h9) rfl dX10_drop_21 ?_
        refine roP (va_runV (As := []) (rest := []) ⟨hx, hb, hml, hown, hts⟩ (t_X0_isFull l D cI cR cM _  hj hG hI  ) (cwV 0 hts gX10_drop_X0_isFull rfl rfl rfl (by decide +kernel) ⟨Nat.le_of_ble_eq_true rfl, Nat.le_of_ble_eq_true rfl⟩) (pre_T hK hP hD (gm_12 hG) fg_2 rfl) rfl rfl hl.1 rfl (lv_room (Nat.le_of_ble_eq_true rfl)) dX10_drop_24 ⟨Nat.le_of_ble_eq_true rfl, Nat.le_of_ble_eq_true rfl⟩) hS hA hP (fun r_9 H locs hw hP hS => ?_)
        obtain ⟨hb_9, h01_9⟩ : (∀ tm lk, f (g 12) = .inr (0, [.ref (g 20), .ref (g 21), .int tm, .int lk]) → r_9.toInt = 0 → tm.toInt < 60) ∧ (r_9.toInt = 0 ∨ r_9.toInt = 1) := hw
        refine a_if_ne (u := r_9.toInt) (tgt := 47) hx hb dX10_drop_27 (by decide) (rfl) (fun c_10 => ?_) (fun c_10 => ?_)
        · refine lv_iconst (v := (-1)) hx hb dX10_drop_47 (by decide) ?_
          have hz_11 : (-1 : Int32).toInt = (-1) := by decide
          exact g_iret ((-1 : Int32), L, S, f) hx hb hr hlocks hS rfl (⟨EXT_c eL0 eS0 hX, hI, FRX_c eL0 eS0 hF⟩) hP hD hQ (Nat.le_of_ble_eq_true rfl) (Nat.le_of_ble_eq_true rfl) dX10_drop_48
        · refine lv_aloadN hx hb dX10_drop_30 (lv_at hl 0 rfl) ?_
          refine lv_ifnullN (tgt := 47) hx hb dX10_drop_32 (by decide) ?_
          refine lv_iconst (v := (-1)) hx hb dX10_drop_47 (by decide) ?_
          have hz_12 : (-1 : Int32).toInt = (-1) := by decide
          exact g_iret ((-1 : Int32), L, S, f) hx hb hr hlocks hS rfl (⟨EXT_c eL0 eS0 hX, hI, FRX_c eL0 eS0 hF⟩) hP hD hQ (Nat.le_of_ble_eq_true rfl) (Nat.le_of_ble_eq_true rfl) dX10_drop_48
  · subst e_4
    refine W.eq (g2 := F0 m 8 ls [.ref r_4]) rfl ?_
    have hl : lv_has ls 6 [(0, .ref (g 10)), (1, .int x), (2, .int y), (3, .int v)] := hl
    obtain ⟨p_13, n_13, m_13, s_13⟩ := ho_3 _ rfl
    refine lv_astore (lv' := [(4, .ref r_4), (0, .ref (g 10)), (1, .int x), (2, .int y), (3, .int v)]) hx hb dX10_drop_8 hl (by decide) rfl (fun ls hl => ?_)
    refine lv_iload_n hx hb dX10_drop_10 rfl (lv_at hl 4 rfl) ?_
    refine a_if_lt (u := v.toInt) (tgt := 47) hx hb dX10_drop_11 (by decide) (rfl) (fun c_14 => ?_) (fun c_14 => ?_)
    · refine lv_iconst (v := (-1)) hx hb dX10_drop_47 (by decide) ?_
      have hz_15 : (-1 : Int32).toInt = (-1) := by decide
      exact g_iret ((-1 : Int32), L, S, f) hx hb hr hlocks hS rfl (⟨EXT_c eL0 eS0 hX, hI, FRX_c eL0 eS0 hF⟩) hP hD hQ (Nat.le_of_ble_eq_true rfl) (Nat.le_of_ble_eq_true rfl) dX10_drop_48
    · refine lv_iload_n hx hb dX10_drop_14 rfl (lv_at hl 4 rfl) ?_
      refine lv_bipush (v := 8) hx hb dX10_drop_15 (by decide) ?_
      refine a_icmp_ge (u := v.toInt) (v := 8) (tgt := 47) hx hb dX10_drop_17 (by decide) (rfl) (by decide) (fun c_16 => ?_) (fun c_16 => ?_)
      · refine lv_iconst (v := (-1)) hx hb dX10_drop_47 (by decide) ?_
        have hz_17 : (-1 : Int32).toInt = (-1) := by decide
        exact g_iret ((-1 : Int32), L, S, f) hx hb hr hlocks hS rfl (⟨EXT_c eL0 eS0 hX, hI, FRX_c eL0 eS0 hF⟩) hP hD hQ (Nat.le_of_ble_eq_true rfl) (Nat.le_of_ble_eq_true rfl) dX10_drop_48
      · refine lv_aload_n hx hb dX10_drop_20 rfl (lv_at hl 1 rfl) ?_
        refine t_get (D := D) (L := L) (f := f) (ci := 10) (v := .ref (g 12)) (C := RX10) (T := TX10) (N := 8) hx hb hts (by decide +kernel) hown hK.1 hP (gm_10 hG) fg_1 rfl 2 (by decide) (hts (.fieldLink RX10 32 "JugglingHall" "book" "LJugglingHall$Book;") (by decide +kernel)) (fun _ h9 => h9) rfl dX10_drop_21 ?_
        refine roP (va_runV (As := []) (rest := []) ⟨hx, hb, hml, hown, hts⟩ (t_X0_isFull l D cI cR cM _  hj hG hI  ) (cwV 0 hts gX10_drop_X0_isFull rfl rfl rfl (by decide +kernel) ⟨Nat.le_of_ble_eq_true rfl, Nat.le_of_ble_eq_true rfl⟩) (pre_T hK hP hD (gm_12 hG) fg_2 rfl) rfl rfl hl.1 rfl (lv_room (Nat.le_of_ble_eq_true rfl)) dX10_drop_24 ⟨Nat.le_of_ble_eq_true rfl, Nat.le_of_ble_eq_true rfl⟩) hS hA hP (fun r_18 H locs hw hP hS => ?_)
        obtain ⟨hb_18, h01_18⟩ : (∀ tm lk, f (g 12) = .inr (0, [.ref (g 20), .ref (g 21), .int tm, .int lk]) → r_18.toInt = 0 → tm.toInt < 60) ∧ (r_18.toInt = 0 ∨ r_18.toInt = 1) := hw
        refine a_if_ne (u := r_18.toInt) (tgt := 47) hx hb dX10_drop_27 (by decide) (rfl) (fun c_19 => ?_) (fun c_19 => ?_)
        · refine lv_iconst (v := (-1)) hx hb dX10_drop_47 (by decide) ?_
          have hz_20 : (-1 : Int32).toInt = (-1) := by decide
          exact g_iret ((-1 : Int32), L, S, f) hx hb hr hlocks hS rfl (⟨EXT_c eL0 eS0 hX, hI, FRX_c eL0 eS0 hF⟩) hP hD hQ (Nat.le_of_ble_eq_true rfl) (Nat.le_of_ble_eq_true rfl) dX10_drop_48
        · refine lv_aload hx hb dX10_drop_30 (lv_at hl 0 rfl) ?_
          refine lv_ifnull hx hb dX10_drop_32 ?_
          refine lv_aload_n hx hb dX10_drop_35 rfl (lv_at hl 1 rfl) ?_
          refine t_get (D := D) (L := L) (f := f) (ci := 10) (v := .ref (g 15)) (C := RX10) (T := TX10) (N := 8) hx hb hts (by decide +kernel) hown hK.1 hP (gm_10 hG) fg_1 rfl 4 (by decide) (hts (.fieldLink RX10 53 "JugglingHall" "catches" "LJugglingHall$Catches;") (by decide +kernel)) (fun _ h9 => h9) rfl dX10_drop_36 ?_
          refine lv_aload hx hb dX10_drop_39 (lv_at hl 0 rfl) ?_
          obtain ⟨cnt_21, rw_21, fg_21, iv0_21, iv1_21, iv2_21⟩ := op_15 hI (gm_15 hG) (gs_15 hG)
          obtain ⟨len_22, fg_22, v1_22, v2_22, v3_22, mp_22, sp_22⟩ := op_0 hI m_13 s_13
          obtain ⟨w1_22, w2_22, w3_22, w4_22, w5_22⟩ := lenw hj v1_22 v2_22 v3_22
          obtain ⟨c_23, fg_23, iv0_23⟩ := op_1 hI mp_22 sp_22
          refine call_p (va_runV (As := [.ref r_4]) (rest := []) ⟨hx, hb, hml, hown, hts⟩ (t_X1_lead l D cI cR cM _  hj hG hI m_13 s_13 fg_22 fg_23 ) (cwV 1 hts gX10_drop_X1_lead rfl rfl rfl (by decide +kernel) ⟨Nat.le_of_ble_eq_true rfl, Nat.le_of_ble_eq_true rfl⟩) (pre_T hK hP hD (gm_15 hG) fg_21 rfl) rfl rfl hl.1 rfl (lv_room (Nat.le_of_ble_eq_true rfl)) dX10_drop_41 ⟨Nat.le_of_ble_eq_true rfl, Nat.le_of_ble_eq_true rfl⟩) hD hS hA (fun u_24 H locs hw hP hD hS => ?_)
          obtain ⟨r_24, f_24⟩ := u_24
          obtain ⟨hI, hF_24, hc_24, h01_24⟩ : IN jn cI cR cM g L S f_24 ∧ FR S [15, 27, 35, 36, 37, 38, 39] f f_24 ∧ (r_24.toInt = 1 → ∃ k9 : Int32, f_24 (g 15) = .inr (1, [.ref (g 35), .ref (g 27), .ref (g 36), .ref (g 37), .ref (g 38), .ref (g 39), .int k9, va_rf (some r_4)]) ∧ 0 ≤ k9.toInt ∧ k9.toInt ≤ 144) ∧ (r_24.toInt = 0 ∨ r_24.toInt = 1) := hw
          have hP : va_P D vwCl (va_pl L f_24) H := hP
          have hD : va_D A (va_pl L f_24) := hD
          have hF := FRX_tr hF hX hF_24 (by decide)
          have fb_25 : f_24 (g 10) = .inr (10, [.int (nI jn), .ref (g 11), .ref (g 12), .ref (g 13), .ref (g 15), .ref (g 16), .ref (g 17), .ref (g 18)]) := FR_at hF_24 (gs_10 hG) (show (10 : Nat) ∉ ([15, 27, 35, 36, 37, 38, 39] : List Nat) by decide) fg_1
          have fb_26 : f_24 (g 12) = .inr (0, [.ref (g 20), .ref (g 21), .int tm_2, .int lk_2]) := FR_at hF_24 (gs_12 hG) (show (12 : Nat) ∉ ([15, 27, 35, 36, 37, 38, 39] : List Nat) by decide) fg_2
          have fb_27 : f_24 r_4 = .inr (5, [.int (nI jn), .int (nI (2 * jn)), .ref p_13, .int len_22]) := FR_at hF_24 s_13 (show (0 : Nat) ∉ ([15, 27, 35, 36, 37, 38, 39] : List Nat) by decide) fg_22
          have fb_28 : f_24 p_13 = .inl (cI, n_13, .inl c_23) := FR_at hF_24 sp_22 (show (1 : Nat) ∉ ([15, 27, 35, 36, 37, 38, 39] : List Nat) by decide) fg_23
          refine a_if_ne (u := r_24.toInt) (tgt := 49) hx hb dX10_drop_44 (by decide) (rfl) (fun c_29 => ?_) (fun c_29 => ?_)
          · refine lv_aload_n hx hb dX10_drop_49 rfl (lv_at hl 1 rfl) ?_
            refine t_get (D := D) (L := L) (f := f_24) (ci := 10) (v := .ref (g 15)) (C := RX10) (T := TX10) (N := 8) hx hb hts (by decide +kernel) hown hK.1 hP (gm_10 hG) fb_25 rfl 4 (by decide) (hts (.fieldLink RX10 53 "JugglingHall" "catches" "LJugglingHall$Catches;") (by decide +kernel)) (fun _ h9 => h9) rfl dX10_drop_50 ?_
            obtain ⟨cnt_30, rw_30, fg_30, iv0_30, iv1_30, iv2_30⟩ := op_15 hI (gm_15 hG) (gs_15 hG)
            refine t_getN (D := D) (L := L) (f := f_24) (ci := 1) (v := .int cnt_30) (C := RX1) (T := TX1) (N := 8) (host := "JugglingHall") hx hb hts (by decide +kernel) hown hK.1 hP (gm_15 hG) fg_30 rfl 6 (by decide) (hK.nw (.fieldLinkNest RX10 153 "JugglingHall$Catches" "count" "I" "JugglingHall") (by decide +kernel) rfl) (fun _ h9 => h9) rfl dX10_drop_53 ?_
            refine lv_bipush (v := 32) hx hb dX10_drop_56 (by decide) ?_
            refine a_icmp_ge (u := cnt_30.toInt) (v := 32) (tgt := 75) hx hb dX10_drop_58 (by decide) (rfl) (by decide) (fun c_31 => ?_) (fun c_31 => ?_)
            · obtain ⟨kn_32, fc_32, ek_32, el_32⟩ := hc_24 (by omega)
              refine lv_aload_n hx hb dX10_drop_75 rfl (lv_at hl 1 rfl) ?_
              refine t_get (D := D) (L := L) (f := f_24) (ci := 10) (v := .ref (g 15)) (C := RX10) (T := TX10) (N := 8) hx hb hts (by decide +kernel) hown hK.1 hP (gm_10 hG) fb_25 rfl 4 (by decide) (hts (.fieldLink RX10 53 "JugglingHall" "catches" "LJugglingHall$Catches;") (by decide +kernel)) (fun _ h9 => h9) rfl dX10_drop_76 ?_
              refine lv_iload_n hx hb dX10_drop_79 rfl (lv_at hl 3 rfl) ?_
              refine call_p (va_runV (As := [.int y]) (rest := []) ⟨hx, hb, hml, hown, hts⟩ (t_X1_without l D cI cR cM _  hj hG hI fc_32 m_13 s_13 fb_27 fb_28 ) (cwV 1 hts gX10_drop_X1_without rfl rfl rfl (by decide +kernel) ⟨Nat.le_of_ble_eq_true rfl, Nat.le_of_ble_eq_true rfl⟩) (pre_T hK hP hD (gm_15 hG) fc_32 rfl) rfl rfl hl.1 rfl (lv_room (Nat.le_of_ble_eq_true rfl)) dX10_drop_80 ⟨Nat.le_of_ble_eq_true rfl, Nat.le_of_ble_eq_true rfl⟩) hD hS hA (fun u_33 H locs hw hP hD hS => ?_)
              obtain ⟨r_33, L, S, f_33⟩ := u_33
              dsimp only at hw hP hD
              obtain ⟨hX_33, hI_33, hF_33, ho_33⟩ := hw
              have fb_34 : f_33 (g 10) = .inr (10, [.int (nI jn), .ref (g 11), .ref (g 12), .ref (g 13), .ref (g 15), .ref (g 16), .ref (g 17), .ref (g 18)]) := FRX_at hF_33 (gm_10 hG) (gs_10 hG) (show (10 : Nat) ∉ ([0, 1] : List Nat) by decide) fb_25
              have fb_35 : f_33 (g 12) = .inr (0, [.ref (g 20), .ref (g 21), .int tm_2, .int lk_2]) := FRX_at hF_33 (gm_12 hG) (gs_12 hG) (show (12 : Nat) ∉ ([0, 1] : List Nat) by decide) fb_26
              have fb_36 : f_33 (g 15) = .inr (1, [.ref (g 35), .ref (g 27), .ref (g 36), .ref (g 37), .ref (g 38), .ref (g 39), .int kn_32, va_rf (some r_4)]) := FRX_at hF_33 (gm_15 hG) (gs_15 hG) (show (15 : Nat) ∉ ([0, 1] : List Nat) by decide) fc_32
              have su_37 := (hX_33 _ m_13).2.trans s_13
              have mu_37 := (hX_33 _ m_13).1
              have su_38 := (hX_33 _ mp_22).2.trans sp_22
              have mu_38 := (hX_33 _ mp_22).1
              have hF := FRX_trX hF hX hF_33 (by decide)
              have hX := EXT_tr hX hX_33
              have hG := SG_ext hX_33 hG
              have hI := hI_33
              refine W.widen (k := 2) (n := 148) (Nat.le_of_ble_eq_true rfl) (Nat.le_of_ble_eq_true rfl) ?_
              obtain ⟨p_39, n_39, m_39, s_39⟩ := ho_33
              refine lv_astore (lv' := [(5, .ref r_33), (4, .ref r_4), (0, .ref (g 10)), (1, .int x), (2, .int y), (3, .int v)]) hx hb dX10_drop_83 hl (by decide) rfl (fun ls hl => ?_)
              refine lv_aload_n hx hb dX10_drop_85 rfl (lv_at hl 2 rfl) ?_
              refine t_get (D := D) (L := L) (f := f_33) (ci := 10) (v := .ref (g 12)) (C := RX10) (T := TX10) (N := 8) hx hb hts (by decide +kernel) hown hK.1 hP (gm_10 hG) fb_34 rfl 2 (by decide) (hts (.fieldLink RX10 32 "JugglingHall" "book" "LJugglingHall$Book;") (by decide +kernel)) (fun _ h9 => h9) rfl dX10_drop_86 ?_
              refine call_p (va_runV (As := []) (rest := []) ⟨hx, hb, hml, hown, hts⟩ (t_X0_turnPage l D cI cR cM _  hj hG hI  ) (cwV 0 hts gX10_drop_X0_turnPage rfl rfl rfl (by decide +kernel) ⟨Nat.le_of_ble_eq_true rfl, Nat.le_of_ble_eq_true rfl⟩) (pre_T hK hP hD (gm_12 hG) fb_35 rfl) rfl rfl hl.1 rfl (lv_room (Nat.le_of_ble_eq_true rfl)) dX10_drop_89 ⟨Nat.le_of_ble_eq_true rfl, Nat.le_of_ble_eq_true rfl⟩) hD hS hA (fun u_40 H locs hw hP hD hS => ?_)
              obtain ⟨f_40, e0_40⟩ : ∃ x, x = u_40 := ⟨_, rfl⟩
              subst e0_40
              obtain ⟨hI, hF_40⟩ : IN jn cI cR cM g L S f_40 ∧ FR S [12, 20, 21] f_33 f_40 := hw
              have hP : va_P D vwCl (va_pl L f_40) H := hP
              have hD : va_D A (va_pl L f_40) := hD
              have hF := FRX_tr hF hX hF_40 (by decide)
              have fb_41 : f_40 (g 10) = .inr (10, [.int (nI jn), .ref (g 11), .ref (g 12), .ref (g 13), .ref (g 15), .ref (g 16), .ref (g 17), .ref (g 18)]) := FR_at hF_40 (gs_10 hG) (show (10 : Nat) ∉ ([12, 20, 21] : List Nat) by decide) fb_34
              have fb_42 : f_40 (g 15) = .inr (1, [.ref (g 35), .ref (g 27), .ref (g 36), .ref (g 37), .ref (g 38), .ref (g 39), .int kn_32, va_rf (some r_4)]) := FR_at hF_40 (gs_15 hG) (show (15 : Nat) ∉ ([12, 20, 21] : List Nat) by decide) fb_36
              refine lv_aload_n hx hb dX10_drop_92 rfl (lv_at hl 2 rfl) ?_
              refine t_get (D := D) (L := L) (f := f_40) (ci := 10) (v := .ref (g 12)) (C := RX10) (T := TX10) (N := 8) hx hb hts (by decide +kernel) hown hK.1 hP (gm_10 hG) fb_41 rfl 2 (by decide) (hts (.fieldLink RX10 32 "JugglingHall" "book" "LJugglingHall$Book;") (by decide +kernel)) (fun _ h9 => h9) rfl dX10_drop_93 ?_
              refine lv_iload_n hx hb dX10_drop_96 rfl (lv_at hl 5 rfl) ?_
              refine lv_aload hx hb dX10_drop_97 (lv_at hl 0 rfl) ?_
              obtain ⟨tm_43, lk_43, fg_43, iv0_43, iv1_43, iv2_43⟩ := op_12 hI (gm_12 hG) (gs_12 hG)
              obtain ⟨len_44, fg_44, v1_44, v2_44, v3_44, mp_44, sp_44⟩ := op_0 hI m_39 s_39
              obtain ⟨w1_44, w2_44, w3_44, w4_44, w5_44⟩ := lenw hj v1_44 v2_44 v3_44
              obtain ⟨c_45, fg_45, iv0_45⟩ := op_1 hI mp_44 sp_44
              refine call_p (va_runV (As := [.int v, .ref r_33]) (rest := []) ⟨hx, hb, hml, hown, hts⟩ (t_X0_writeRow l D cI cR cM _  hj hG hI m_39 s_39 fg_44 fg_45 ) (cwV 2 hts gX10_drop_X0_writeRow rfl rfl rfl (by decide +kernel) ⟨Nat.le_of_ble_eq_true rfl, Nat.le_of_ble_eq_true rfl⟩) (pre_T hK hP hD (gm_12 hG) fg_43 rfl) rfl rfl hl.1 rfl (lv_room (Nat.le_of_ble_eq_true rfl)) dX10_drop_99 ⟨Nat.le_of_ble_eq_true rfl, Nat.le_of_ble_eq_true rfl⟩) hD hS hA (fun u_46 H locs hw hP hD hS => ?_)
              obtain ⟨f_46, e0_46⟩ : ∃ x, x = u_46 := ⟨_, rfl⟩
              subst e0_46
              obtain ⟨hI, hF_46⟩ : IN jn cI cR cM g L S f_46 ∧ FR S [20] f_40 f_46 := hw
              have hP : va_P D vwCl (va_pl L f_46) H := hP
              have hD : va_D A (va_pl L f_46) := hD
              have hF := FRX_tr hF hX hF_46 (by decide)
              have fb_47 : f_46 (g 10) = .inr (10, [.int (nI jn), .ref (g 11), .ref (g 12), .ref (g 13), .ref (g 15), .ref (g 16), .ref (g 17), .ref (g 18)]) := FR_at hF_46 (gs_10 hG) (show (10 : Nat) ∉ ([20] : List Nat) by decide) fb_41
              have fb_48 : f_46 (g 15) = .inr (1, [.ref (g 35), .ref (g 27), .ref (g 36), .ref (g 37), .ref (g 38), .ref (g 39), .int kn_32, va_rf (some r_4)]) := FR_at hF_46 (gs_15 hG) (show (15 : Nat) ∉ ([20] : List Nat) by decide) fb_42
              have fb_49 : f_46 (g 12) = .inr (0, [.ref (g 20), .ref (g 21), .int tm_43, .int lk_43]) := FR_at hF_46 (gs_12 hG) (show (12 : Nat) ∉ ([20] : List Nat) by decide) fg_43
              have fb_50 : f_46 r_33 = .inr (5, [.int (nI jn), .int (nI (2 * jn)), .ref p_39, .int len_44]) := FR_at hF_46 s_39 (show (0 : Nat) ∉ ([20] : List Nat) by decide) fg_44
              have fb_51 : f_46 p_39 = .inl (cI, n_39, .inl c_45) := FR_at hF_46 sp_44 (show (1 : Nat) ∉ ([20] : List Nat) by decide) fg_45
              refine lv_aload_n hx hb dX10_drop_102 rfl (lv_at hl 2 rfl) ?_
              refine t_get (D := D) (L := L) (f := f_46) (ci := 10) (v := .ref (g 12)) (C := RX10) (T := TX10) (N := 8) hx hb hts (by decide +kernel) hown hK.1 hP (gm_10 hG) fb_47 rfl 2 (by decide) (hts (.fieldLink RX10 32 "JugglingHall" "book" "LJugglingHall$Book;") (by decide +kernel)) (fun _ h9 => h9) rfl dX10_drop_103 ?_
              refine t_getN (D := D) (L := L) (f := f_46) (ci := 0) (v := .int tm_43) (C := RX0) (T := TX0) (N := 4) (host := "JugglingHall") hx hb hts (by decide +kernel) hown hK.1 hP (gm_12 hG) fb_49 rfl 2 (by decide) (hK.nw (.fieldLinkNest RX10 99 "JugglingHall$Book" "time" "I" "JugglingHall") (by decide +kernel) rfl) (fun _ h9 => h9) rfl dX10_drop_106 ?_
              exact g_iret (tm_43, L, S, f_46) hx hb hr hlocks hS rfl (⟨EXT_c eL0 eS0 hX, hI, FRX_c eL0 eS0 hF⟩) hP hD hQ (Nat.le_of_ble_eq_true rfl) (Nat.le_of_ble_eq_true rfl) dX10_drop_109
            · refine lv_iload_n hx hb dX10_drop_61 rfl (lv_at hl 3 rfl) ?_
              refine lv_aload_n hx hb dX10_drop_62 rfl (lv_at hl 1 rfl) ?_
              refine t_get (D := D) (L := L) (f := f_24) (ci := 10) (v := .ref (g 15)) (C := RX10) (T := TX10) (N := 8) hx hb hts (by decide +kernel) hown hK.1 hP (gm_10 hG) fb_25 rfl 4 (by decide) (hts (.fieldLink RX10 53 "JugglingHall" "catches" "LJugglingHall$Catches;") (by decide +kernel)) (fun _ h9 => h9) rfl dX10_drop_63 ?_
              refine t_getN (D := D) (L := L) (f := f_24) (ci := 1) (v := .int cnt_30) (C := RX1) (T := TX1) (N := 8) (host := "JugglingHall") hx hb hts (by decide +kernel) hown hK.1 hP (gm_15 hG) fg_30 rfl 6 (by decide) (hK.nw (.fieldLinkNest RX10 153 "JugglingHall$Catches" "count" "I" "JugglingHall") (by decide +kernel) rfl) (fun _ h9 => h9) rfl dX10_drop_66 ?_
              refine lv_iushr hx hb dX10_drop_69 rfl ?_
              refine lv_topi (fun z_52 q_52 => ?_)
              refine a_if_eq (u := z_52.toInt) (tgt := 75) hx hb dX10_drop_70 (by decide) (rfl) (fun c_53 => ?_) (fun c_53 => ?_)
              · obtain ⟨kn_54, fc_54, ek_54, el_54⟩ := hc_24 (by omega)
                refine lv_aload_n hx hb dX10_drop_75 rfl (lv_at hl 1 rfl) ?_
                refine t_get (D := D) (L := L) (f := f_24) (ci := 10) (v := .ref (g 15)) (C := RX10) (T := TX10) (N := 8) hx hb hts (by decide +kernel) hown hK.1 hP (gm_10 hG) fb_25 rfl 4 (by decide) (hts (.fieldLink RX10 53 "JugglingHall" "catches" "LJugglingHall$Catches;") (by decide +kernel)) (fun _ h9 => h9) rfl dX10_drop_76 ?_
                refine lv_iload_n hx hb dX10_drop_79 rfl (lv_at hl 3 rfl) ?_
                refine call_p (va_runV (As := [.int y]) (rest := []) ⟨hx, hb, hml, hown, hts⟩ (t_X1_without l D cI cR cM _  hj hG hI fc_54 m_13 s_13 fb_27 fb_28 ) (cwV 1 hts gX10_drop_X1_without rfl rfl rfl (by decide +kernel) ⟨Nat.le_of_ble_eq_true rfl, Nat.le_of_ble_eq_true rfl⟩) (pre_T hK hP hD (gm_15 hG) fc_54 rfl) rfl rfl hl.1 rfl (lv_room (Nat.le_of_ble_eq_true rfl)) dX10_drop_80 ⟨Nat.le_of_ble_eq_true rfl, Nat.le_of_ble_eq_true rfl⟩) hD hS hA (fun u_55 H locs hw hP hD hS => ?_)
                obtain ⟨r_55, L, S, f_55⟩ := u_55
                dsimp only at hw hP hD
                obtain ⟨hX_55, hI_55, hF_55, ho_55⟩ := hw
                have fb_56 : f_55 (g 10) = .inr (10, [.int (nI jn), .ref (g 11), .ref (g 12), .ref (g 13), .ref (g 15), .ref (g 16), .ref (g 17), .ref (g 18)]) := FRX_at hF_55 (gm_10 hG) (gs_10 hG) (show (10 : Nat) ∉ ([0, 1] : List Nat) by decide) fb_25
                have fb_57 : f_55 (g 12) = .inr (0, [.ref (g 20), .ref (g 21), .int tm_2, .int lk_2]) := FRX_at hF_55 (gm_12 hG) (gs_12 hG) (show (12 : Nat) ∉ ([0, 1] : List Nat) by decide) fb_26
                have fb_58 : f_55 (g 15) = .inr (1, [.ref (g 35), .ref (g 27), .ref (g 36), .ref (g 37), .ref (g 38), .ref (g 39), .int kn_54, va_rf (some r_4)]) := FRX_at hF_55 (gm_15 hG) (gs_15 hG) (show (15 : Nat) ∉ ([0, 1] : List Nat) by decide) fc_54
                have su_59 := (hX_55 _ m_13).2.trans s_13
                have mu_59 := (hX_55 _ m_13).1
                have su_60 := (hX_55 _ mp_22).2.trans sp_22
                have mu_60 := (hX_55 _ mp_22).1
                have hF := FRX_trX hF hX hF_55 (by decide)
                have hX := EXT_tr hX hX_55
                have hG := SG_ext hX_55 hG
                have hI := hI_55
                refine W.widen (k := 2) (n := 148) (Nat.le_of_ble_eq_true rfl) (Nat.le_of_ble_eq_true rfl) ?_
                obtain ⟨p_61, n_61, m_61, s_61⟩ := ho_55
                refine lv_astore (lv' := [(5, .ref r_55), (4, .ref r_4), (0, .ref (g 10)), (1, .int x), (2, .int y), (3, .int v)]) hx hb dX10_drop_83 hl (by decide) rfl (fun ls hl => ?_)
                refine lv_aload_n hx hb dX10_drop_85 rfl (lv_at hl 2 rfl) ?_
                refine t_get (D := D) (L := L) (f := f_55) (ci := 10) (v := .ref (g 12)) (C := RX10) (T := TX10) (N := 8) hx hb hts (by decide +kernel) hown hK.1 hP (gm_10 hG) fb_56 rfl 2 (by decide) (hts (.fieldLink RX10 32 "JugglingHall" "book" "LJugglingHall$Book;") (by decide +kernel)) (fun _ h9 => h9) rfl dX10_drop_86 ?_
                refine call_p (va_runV (As := []) (rest := []) ⟨hx, hb, hml, hown, hts⟩ (t_X0_turnPage l D cI cR cM _  hj hG hI  ) (cwV 0 hts gX10_drop_X0_turnPage rfl rfl rfl (by decide +kernel) ⟨Nat.le_of_ble_eq_true rfl, Nat.le_of_ble_eq_true rfl⟩) (pre_T hK hP hD (gm_12 hG) fb_57 rfl) rfl rfl hl.1 rfl (lv_room (Nat.le_of_ble_eq_true rfl)) dX10_drop_89 ⟨Nat.le_of_ble_eq_true rfl, Nat.le_of_ble_eq_true rfl⟩) hD hS hA (fun u_62 H locs hw hP hD hS => ?_)
                obtain ⟨f_62, e0_62⟩ : ∃ x, x = u_62 := ⟨_, rfl⟩
                subst e0_62
                obtain ⟨hI, hF_62⟩ : IN jn cI cR cM g L S f_62 ∧ FR S [12, 20, 21] f_55 f_62 := hw
                have hP : va_P D vwCl (va_pl L f_62) H := hP
                have hD : va_D A (va_pl L f_62) := hD
                have hF := FRX_tr hF hX hF_62 (by decide)
                have fb_63 : f_62 (g 10) = .inr (10, [.int (nI jn), .ref (g 11), .ref (g 12), .ref (g 13), .ref (g 15), .ref (g 16), .ref (g 17), .ref (g 18)]) := FR_at hF_62 (gs_10 hG) (show (10 : Nat) ∉ ([12, 20, 21] : List Nat) by decide) fb_56
                have fb_64 : f_62 (g 15) = .inr (1, [.ref (g 35), .ref (g 27), .ref (g 36), .ref (g 37), .ref (g 38), .ref (g 39), .int kn_54, va_rf (some r_4)]) := FR_at hF_62 (gs_15 hG) (show (15 : Nat) ∉ ([12, 20, 21] : List Nat) by decide) fb_58
                refine lv_aload_n hx hb dX10_drop_92 rfl (lv_at hl 2 rfl) ?_
                refine t_get (D := D) (L := L) (f := f_62) (ci := 10) (v := .ref (g 12)) (C := RX10) (T := TX10) (N := 8) hx hb hts (by decide +kernel) hown hK.1 hP (gm_10 hG) fb_63 rfl 2 (by decide) (hts (.fieldLink RX10 32 "JugglingHall" "book" "LJugglingHall$Book;") (by decide +kernel)) (fun _ h9 => h9) rfl dX10_drop_93 ?_
                refine lv_iload_n hx hb dX10_drop_96 rfl (lv_at hl 5 rfl) ?_
                refine lv_aload hx hb dX10_drop_97 (lv_at hl 0 rfl) ?_
                obtain ⟨tm_65, lk_65, fg_65, iv0_65, iv1_65, iv2_65⟩ := op_12 hI (gm_12 hG) (gs_12 hG)
                obtain ⟨len_66, fg_66, v1_66, v2_66, v3_66, mp_66, sp_66⟩ := op_0 hI m_61 s_61
                obtain ⟨w1_66, w2_66, w3_66, w4_66, w5_66⟩ := lenw hj v1_66 v2_66 v3_66
                obtain ⟨c_67, fg_67, iv0_67⟩ := op_1 hI mp_66 sp_66
                refine call_p (va_runV (As := [.int v, .ref r_55]) (rest := []) ⟨hx, hb, hml, hown, hts⟩ (t_X0_writeRow l D cI cR cM _  hj hG hI m_61 s_61 fg_66 fg_67 ) (cwV 2 hts gX10_drop_X0_writeRow rfl rfl rfl (by decide +kernel) ⟨Nat.le_of_ble_eq_true rfl, Nat.le_of_ble_eq_true rfl⟩) (pre_T hK hP hD (gm_12 hG) fg_65 rfl) rfl rfl hl.1 rfl (lv_room (Nat.le_of_ble_eq_true rfl)) dX10_drop_99 ⟨Nat.le_of_ble_eq_true rfl, Nat.le_of_ble_eq_true rfl⟩) hD hS hA (fun u_68 H locs hw hP hD hS => ?_)
                obtain ⟨f_68, e0_68⟩ : ∃ x, x = u_68 := ⟨_, rfl⟩
                subst e0_68
                obtain ⟨hI, hF_68⟩ : IN jn cI cR cM g L S f_68 ∧ FR S [20] f_62 f_68 := hw
                have hP : va_P D vwCl (va_pl L f_68) H := hP
                have hD : va_D A (va_pl L f_68) := hD
                have hF := FRX_tr hF hX hF_68 (by decide)
                have fb_69 : f_68 (g 10) = .inr (10, [.int (nI jn), .ref (g 11), .ref (g 12), .ref (g 13), .ref (g 15), .ref (g 16), .ref (g 17), .ref (g 18)]) := FR_at hF_68 (gs_10 hG) (show (10 : Nat) ∉ ([20] : List Nat) by decide) fb_63
                have fb_70 : f_68 (g 15) = .inr (1, [.ref (g 35), .ref (g 27), .ref (g 36), .ref (g 37), .ref (g 38), .ref (g 39), .int kn_54, va_rf (some r_4)]) := FR_at hF_68 (gs_15 hG) (show (15 : Nat) ∉ ([20] : List Nat) by decide) fb_64
                have fb_71 : f_68 (g 12) = .inr (0, [.ref (g 20), .ref (g 21), .int tm_65, .int lk_65]) := FR_at hF_68 (gs_12 hG) (show (12 : Nat) ∉ ([20] : List Nat) by decide) fg_65
                have fb_72 : f_68 r_55 = .inr (5, [.int (nI jn), .int (nI (2 * jn)), .ref p_61, .int len_66]) := FR_at hF_68 s_61 (show (0 : Nat) ∉ ([20] : List Nat) by decide) fg_66
                have fb_73 : f_68 p_61 = .inl (cI, n_61, .inl c_67) := FR_at hF_68 sp_66 (show (1 : Nat) ∉ ([20] : List Nat) by decide) fg_67
                refine lv_aload_n hx hb dX10_drop_102 rfl (lv_at hl 2 rfl) ?_
                refine t_get (D := D) (L := L) (f := f_68) (ci := 10) (v := .ref (g 12)) (C := RX10) (T := TX10) (N := 8) hx hb hts (by decide +kernel) hown hK.1 hP (gm_10 hG) fb_69 rfl 2 (by decide) (hts (.fieldLink RX10 32 "JugglingHall" "book" "LJugglingHall$Book;") (by decide +kernel)) (fun _ h9 => h9) rfl dX10_drop_103 ?_
                refine t_getN (D := D) (L := L) (f := f_68) (ci := 0) (v := .int tm_65) (C := RX0) (T := TX0) (N := 4) (host := "JugglingHall") hx hb hts (by decide +kernel) hown hK.1 hP (gm_12 hG) fb_71 rfl 2 (by decide) (hK.nw (.fieldLinkNest RX10 99 "JugglingHall$Book" "time" "I" "JugglingHall") (by decide +kernel) rfl) (fun _ h9 => h9) rfl dX10_drop_106 ?_
                exact g_iret (tm_65, L, S, f_68) hx hb hr hlocks hS rfl (⟨EXT_c eL0 eS0 hX, hI, FRX_c eL0 eS0 hF⟩) hP hD hQ (Nat.le_of_ble_eq_true rfl) (Nat.le_of_ble_eq_true rfl) dX10_drop_109
              · refine lv_iconst (v := (-1)) hx hb dX10_drop_73 (by decide) ?_
                have hz_74 : (-1 : Int32).toInt = (-1) := by decide
                exact g_iret ((-1 : Int32), L, S, f_24) hx hb hr hlocks hS rfl (⟨EXT_c eL0 eS0 hX, hI, FRX_c eL0 eS0 hF⟩) hP hD hQ (Nat.le_of_ble_eq_true rfl) (Nat.le_of_ble_eq_true rfl) dX10_drop_74
          · refine lv_iconst (v := (-1)) hx hb dX10_drop_47 (by decide) ?_
            have hz_75 : (-1 : Int32).toInt = (-1) := by decide
            exact g_iret ((-1 : Int32), L, S, f_24) hx hb hr hlocks hS rfl (⟨EXT_c eL0 eS0 hX, hI, FRX_c eL0 eS0 hF⟩) hP hD hQ (Nat.le_of_ble_eq_true rfl) (Nat.le_of_ble_eq_true rfl) dX10_drop_48
set_option maxRecDepth 100000 in
set_option maxHeartbeats 4000000 in
theorem t_X10_add (l : Launch) (D : va_G) (cI cR cM : ClassId) (sz : Nat) {jn : Nat} {g : Nat → Nat} {L : List Nat} {S : Sg} {f : Nat → va_E} {x y : Int32}  (hj : 1 ≤ jn ∧ jn ≤ 3) (hG : SG g L S) (hI : IN jn cI cR cM g L S f)  : Met l yX10_add wsX10_add ({ frames := 5, cells := 0, slots := 0, locals := 108 }) (P0 D cI cR cM [.ref (g 10), .int x, .int y] sz (va_pl L f)) (QG (S := Int32 × (Nat → va_E)) (fun u => some (.int u.1)) (fun u => va_pl L u.2) (fun u => IN jn cI cR cM g L S u.2 ∧ FR S [16, 17, 35, 40, 41, 42, 43, 44, 45] f u.2) D (va_A (va_pl L f) sz)) 0 0 (va_A (va_pl L f) sz) := by
  refine go (cc := cX10_add) (maxL := 7) (ret := (some .int)) (by decide +kernel) rfl (Nat.le_of_ble_eq_true rfl) ?_
  intro p e s m below meth c ls args Q hQ hsz hx hb hr hml hts hown hlocks hnm hP hK hD hl
  subst hsz
  have hD := hD.self (sz := s.heap.size)
  generalize hAe : va_A (va_pl L f) s.heap.size = A at hD hQ
  have hA : ∀ q, s.heap.size ≤ q → A q := fun q h => by rw [← hAe]; exact Or.inr h
  have hS : va_S A s.heap s.heap [] := va_S.rf
  have hF : FR S [16, 17, 35, 40, 41, 42, 43, 44, 45] f f := FR_rf
  have hl : lv_has ls 7 [(0, .ref (g 10)), (1, .int x), (2, .int y)] := hl
  refine lv_aload_n hx hb dX10_add_0 rfl (lv_at hl 0 rfl) ?_
  have fg_1 := op_10 hI (gm_10 hG) (gs_10 hG)
  refine t_get (D := D) (L := L) (f := f) (ci := 10) (v := .ref (g 12)) (C := RX10) (T := TX10) (N := 8) hx hb hts (by decide +kernel) hown hK.1 hP (gm_10 hG) fg_1 rfl 2 (by decide) (hts (.fieldLink RX10 32 "JugglingHall" "book" "LJugglingHall$Book;") (by decide +kernel)) (fun _ h9 => h9) rfl dX10_add_1 ?_
  refine lv_iload_n hx hb dX10_add_4 rfl (lv_at hl 1 rfl) ?_
  obtain ⟨tm_2, lk_2, fg_2, iv0_2, iv1_2, iv2_2⟩ := op_12 hI (gm_12 hG) (gs_12 hG)
  refine roR (va_runV (As := [.int x]) (rest := []) ⟨hx, hb, hml, hown, hts⟩ (t_X0_rowSeen l D cI cR cM _  hj hG hI  ) (cwV 1 hts gX10_add_X0_rowSeen rfl rfl rfl (by decide +kernel) ⟨Nat.le_of_ble_eq_true rfl, Nat.le_of_ble_eq_true rfl⟩) (pre_T hK hP hD (gm_12 hG) fg_2 rfl) rfl rfl hl.1 rfl (lv_room (Nat.le_of_ble_eq_true rfl)) dX10_add_5 ⟨Nat.le_of_ble_eq_true rfl, Nat.le_of_ble_eq_true rfl⟩) hS hA hP (fun w_3 H locs hw hP hS => ?_)
  have ho_3 : (∀ z, w_3 = some z → ∃ p n, isRow L S z p n) := hw
  rcases x_opt w_3 with e_4 | ⟨r_4, e_4⟩
  · subst e_4
    refine W.eq (g2 := F0 m 8 ls [.null]) rfl ?_
    have hl : lv_has ls 7 [(0, .ref (g 10)), (1, .int x), (2, .int y)] := hl
    refine lv_astore_nN (lv' := [(3, .null), (0, .ref (g 10)), (1, .int x), (2, .int y)]) hx hb dX10_add_8 rfl hl (by decide) rfl (fun ls hl => ?_)
    refine lv_aload_n hx hb dX10_add_9 rfl (lv_at hl 1 rfl) ?_
    refine lv_aload_nN hx hb dX10_add_10 rfl (lv_at hl 0 rfl) ?_
    refine roP (va_runV (As := [.null]) (rest := []) ⟨hx, hb, hml, hown, hts⟩ (t_X10_isPlainAndGood_null l D cI cR cM _  hj hG hI  ) (cwV 1 hts gX10_add_X10_isPlainAndGood rfl rfl rfl (by decide +kernel) ⟨Nat.le_of_ble_eq_true rfl, Nat.le_of_ble_eq_true rfl⟩) (pre_T hK hP hD (gm_10 hG) fg_1 rfl) rfl rfl hl.1 rfl (lv_room (Nat.le_of_ble_eq_true rfl)) dX10_add_11 ⟨Nat.le_of_ble_eq_true rfl, Nat.le_of_ble_eq_true rfl⟩) hS hA hP (fun r_5 H locs hw hP hS => ?_)
    obtain ⟨h0_5, h01_5⟩ : (r_5.toInt = 0) ∧ (r_5.toInt = 0 ∨ r_5.toInt = 1) := hw
    refine a_if_eq (u := r_5.toInt) (tgt := 28) hx hb dX10_add_14 (by decide) (rfl) (fun c_6 => ?_) (fun c_6 => absurd c_6 (by omega))
    refine lv_iconst (v := (-1)) hx hb dX10_add_28 (by decide) ?_
    have hz_7 : (-1 : Int32).toInt = (-1) := by decide
    exact g_iret ((-1 : Int32), f) hx hb hr hlocks hS rfl (⟨hI, hF⟩) hP hD hQ (Nat.le_of_ble_eq_true rfl) (Nat.le_of_ble_eq_true rfl) dX10_add_29
  · subst e_4
    refine W.eq (g2 := F0 m 8 ls [.ref r_4]) rfl ?_
    have hl : lv_has ls 7 [(0, .ref (g 10)), (1, .int x), (2, .int y)] := hl
    obtain ⟨p_8, n_8, m_8, s_8⟩ := ho_3 _ rfl
    refine lv_astore_n (lv' := [(3, .ref r_4), (0, .ref (g 10)), (1, .int x), (2, .int y)]) hx hb dX10_add_8 rfl hl (by decide) rfl (fun ls hl => ?_)
    refine lv_aload_n hx hb dX10_add_9 rfl (lv_at hl 1 rfl) ?_
    refine lv_aload_n hx hb dX10_add_10 rfl (lv_at hl 0 rfl) ?_
    obtain ⟨len_9, fg_9, v1_9, v2_9, v3_9, mp_9, sp_9⟩ := op_0 hI m_8 s_8
    obtain ⟨w1_9, w2_9, w3_9, w4_9, w5_9⟩ := lenw hj v1_9 v2_9 v3_9
    obtain ⟨c_10, fg_10, iv0_10⟩ := op_1 hI mp_9 sp_9
    refine call_p (va_runV (As := [.ref r_4]) (rest := []) ⟨hx, hb, hml, hown, hts⟩ (t_X10_isPlainAndGood l D cI cR cM _  hj hG hI m_8 s_8 fg_9 fg_10 ) (cwV 1 hts gX10_add_X10_isPlainAndGood rfl rfl rfl (by decide +kernel) ⟨Nat.le_of_ble_eq_true rfl, Nat.le_of_ble_eq_true rfl⟩) (pre_T hK hP hD (gm_10 hG) fg_1 rfl) rfl rfl hl.1 rfl (lv_room (Nat.le_of_ble_eq_true rfl)) dX10_add_11 ⟨Nat.le_of_ble_eq_true rfl, Nat.le_of_ble_eq_true rfl⟩) hD hS hA (fun u_11 H locs hw hP hD hS => ?_)
    obtain ⟨r_11, f_11⟩ := u_11
    obtain ⟨hI, hF_11, h01_11⟩ : IN jn cI cR cM g L S f_11 ∧ FR S [35] f f_11 ∧ (r_11.toInt = 0 ∨ r_11.toInt = 1) := hw
    have hP : va_P D vwCl (va_pl L f_11) H := hP
    have hD : va_D A (va_pl L f_11) := hD
    have hF := FR_tr hF hF_11 (by decide)
    have fb_12 : f_11 (g 10) = .inr (10, [.int (nI jn), .ref (g 11), .ref (g 12), .ref (g 13), .ref (g 15), .ref (g 16), .ref (g 17), .ref (g 18)]) := FR_at hF_11 (gs_10 hG) (show (10 : Nat) ∉ ([35] : List Nat) by decide) fg_1
    have fb_13 : f_11 (g 12) = .inr (0, [.ref (g 20), .ref (g 21), .int tm_2, .int lk_2]) := FR_at hF_11 (gs_12 hG) (show (12 : Nat) ∉ ([35] : List Nat) by decide) fg_2
    have fb_14 : f_11 r_4 = .inr (5, [.int (nI jn), .int (nI (2 * jn)), .ref p_8, .int len_9]) := FR_at hF_11 s_8 (show (0 : Nat) ∉ ([35] : List Nat) by decide) fg_9
    have fb_15 : f_11 p_8 = .inl (cI, n_8, .inl c_10) := FR_at hF_11 sp_9 (show (1 : Nat) ∉ ([35] : List Nat) by decide) fg_10
    refine a_if_eq (u := r_11.toInt) (tgt := 28) hx hb dX10_add_14 (by decide) (rfl) (fun c_16 => ?_) (fun c_16 => ?_)
    · refine lv_iconst (v := (-1)) hx hb dX10_add_28 (by decide) ?_
      have hz_17 : (-1 : Int32).toInt = (-1) := by decide
      exact g_iret ((-1 : Int32), f_11) hx hb hr hlocks hS rfl (⟨hI, hF⟩) hP hD hQ (Nat.le_of_ble_eq_true rfl) (Nat.le_of_ble_eq_true rfl) dX10_add_29
    · refine lv_iload_n hx hb dX10_add_17 rfl (lv_at hl 3 rfl) ?_
      refine lv_iconst (v := 1) hx hb dX10_add_18 (by decide) ?_
      refine a_icmp_lt (u := y.toInt) (v := 1) (tgt := 28) hx hb dX10_add_19 (by decide) (rfl) (by decide) (fun c_18 => ?_) (fun c_18 => ?_)
      · refine lv_iconst (v := (-1)) hx hb dX10_add_28 (by decide) ?_
        have hz_19 : (-1 : Int32).toInt = (-1) := by decide
        exact g_iret ((-1 : Int32), f_11) hx hb hr hlocks hS rfl (⟨hI, hF⟩) hP hD hQ (Nat.le_of_ble_eq_true rfl) (Nat.le_of_ble_eq_true rfl) dX10_add_29
      · refine lv_iload_n hx hb dX10_add_22 rfl (lv_at hl 3 rfl) ?_
        refine lv_bipush (v := 50) hx hb dX10_add_23 (by decide) ?_
        refine a_icmp_le (u := y.toInt) (v := 50) (tgt := 30) hx hb dX10_add_25 (by decide) (rfl) (by decide) (fun c_20 => ?_) (fun c_20 => ?_)
        · refine lv_aload_n hx hb dX10_add_30 rfl (lv_at hl 0 rfl) ?_
          refine lv_iconst (v := 0) hx hb dX10_add_31 (by decide) ?_
          have hz_21 : (0 : Int32).toInt = 0 := by decide
          refine roP (va_runS (As := [.ref r_4, .int 0]) (rest := []) ⟨hx, hb, hml, hown, hts⟩ (t_X9_stateOf l D cI cR cM _  hj hG hI m_8 s_8 fb_14 fb_15 (by first | assumption | omega)) (va_cwS 2 hts gX10_add_X9_stateOf rfl rfl rfl (by decide +kernel) ⟨Nat.le_of_ble_eq_true rfl, Nat.le_of_ble_eq_true rfl⟩) (pre_S hK hP hD) rfl rfl hl.1 rfl (lv_room (Nat.le_of_ble_eq_true rfl)) dX10_add_32 ⟨Nat.le_of_ble_eq_true rfl, Nat.le_of_ble_eq_true rfl⟩) hS hA hP (fun r_22 H locs hw hP hS => ?_)
          refine lv_istore (lv' := [(4, .int r_22), (3, .ref r_4), (0, .ref (g 10)), (1, .int x), (2, .int y)]) hx hb dX10_add_35 hl (by decide) rfl (fun ls hl => ?_)
          have join23 : ∀ (r9 : Int32) (f_23 : Nat → va_E) (H : Heap) (locs : List Loc) (ls : Array Slot), IN jn cI cR cM g L S f_23 → FR S [16, 17, 35, 40, 41, 42, 43, 44, 45] f f_23 → (-1 ≤ r9.toInt ∧ r9.toInt ≤ 511) → va_P D vwCl (va_pl L f_23) H → va_D A (va_pl L f_23) → va_S A s.heap H locs → lv_has ls 7 [(0, .ref (g 10)), (1, .int x), (2, .int y), (3, .ref r_4), (4, .int r_22)] → W p l e ({ frames := 5, cells := 0, slots := 0, locals := 108 }) s m args below meth c H locs (0) (0) Q (F0 m 67 ls [.int r9]) := by
            intro r9 f_23 H locs ls hI hF hr9 hP hD hS hl
            refine lv_istore (lv' := [(5, .int r9), (0, .ref (g 10)), (1, .int x), (2, .int y), (3, .ref r_4), (4, .int r_22)]) hx hb dX10_add_67 hl (by decide) rfl (fun ls hl => ?_)
            refine lv_iload hx hb dX10_add_69 (lv_at hl 0 rfl) ?_
            refine lv_iconst (v := (-1)) hx hb dX10_add_71 (by decide) ?_
            refine a_icmp_eq (u := r9.toInt) (v := (-1)) (tgt := 94) hx hb dX10_add_72 (by decide) (rfl) (by decide) (fun c_24 => ?_) (fun c_24 => ?_)
            · refine lv_iconst (v := (-1)) hx hb dX10_add_94 (by decide) ?_
              have hz_25 : (-1 : Int32).toInt = (-1) := by decide
              exact g_iret ((-1 : Int32), f_23) hx hb hr hlocks hS rfl (⟨hI, hF⟩) hP hD hQ (Nat.le_of_ble_eq_true rfl) (Nat.le_of_ble_eq_true rfl) dX10_add_95
            · refine lv_aload_n hx hb dX10_add_75 rfl (lv_at hl 1 rfl) ?_
              have fg_26 := op_10 hI (gm_10 hG) (gs_10 hG)
              refine t_get (D := D) (L := L) (f := f_23) (ci := 10) (v := .ref (g 17)) (C := RX10) (T := TX10) (N := 8) hx hb hts (by decide +kernel) hown hK.1 hP (gm_10 hG) fg_26 rfl 6 (by decide) (hts (.fieldLink RX10 67 "JugglingHall" "sheet" "LJugglingHall$Sheet;") (by decide +kernel)) (fun _ h9 => h9) rfl dX10_add_76 ?_
              refine lv_iload hx hb dX10_add_79 (lv_at hl 0 rfl) ?_
              refine lv_iload_n hx hb dX10_add_81 rfl (lv_at hl 3 rfl) ?_
              refine lv_aload_n hx hb dX10_add_82 rfl (lv_at hl 4 rfl) ?_
              obtain ⟨len_27, fg_27, v1_27, v2_27, v3_27, mp_27, sp_27⟩ := op_0 hI m_8 s_8
              obtain ⟨w1_27, w2_27, w3_27, w4_27, w5_27⟩ := lenw hj v1_27 v2_27 v3_27
              refine t_getN (D := D) (L := L) (f := f_23) (ci := 5) (v := .int len_27) (C := RX5) (T := TX5) (N := 4) (host := "JugglingHall") hx hb hts (by decide +kernel) hown hK.1 hP m_8 fg_27 rfl 3 (by decide) (hK.nw (.fieldLinkNest RX10 115 "JugglingHall$Row" "length" "I" "JugglingHall") (by decide +kernel) rfl) (fun _ h9 => h9) rfl dX10_add_83 ?_
              have hm50 := mul50 (a := y.toInt) (b := len_27.toInt) (by omega) (by omega)
              refine a_imul (u := y.toInt) (v := len_27.toInt) hx hb dX10_add_86 (rfl) (rfl) (by omega) (fun z_28 e_28 => ?_)
              refine a_iadd (u := r9.toInt) (v := (y.toInt * len_27.toInt)) hx hb dX10_add_87 (rfl) (e_28) (by omega) (fun z_29 e_29 => ?_)
              obtain ⟨len_30, st_30, fg_30, iv0_30, iv1_30⟩ := op_17 hI (gm_17 hG) (gs_17 hG)
              refine roP (va_runV (As := [.int z_29]) (rest := []) ⟨hx, hb, hml, hown, hts⟩ (t_X6_hasRoom l D cI cR cM _  hj hG hI  (by first | assumption | omega)) (cwV 1 hts gX10_add_X6_hasRoom rfl rfl rfl (by decide +kernel) ⟨Nat.le_of_ble_eq_true rfl, Nat.le_of_ble_eq_true rfl⟩) (pre_T hK hP hD (gm_17 hG) fg_30 rfl) rfl rfl hl.1 rfl (lv_room (Nat.le_of_ble_eq_true rfl)) dX10_add_88 ⟨Nat.le_of_ble_eq_true rfl, Nat.le_of_ble_eq_true rfl⟩) hS hA hP (fun r_31 H locs hw hP hS => ?_)
              have h01_31 : (r_31.toInt = 0 ∨ r_31.toInt = 1) := hw
              refine a_if_ne (u := r_31.toInt) (tgt := 96) hx hb dX10_add_91 (by decide) (rfl) (fun c_32 => ?_) (fun c_32 => ?_)
              · refine lv_iconst (v := 0) hx hb dX10_add_96 (by decide) ?_
                refine lv_istore (lv' := [(6, .int 0), (5, .int r9), (0, .ref (g 10)), (1, .int x), (2, .int y), (3, .ref r_4), (4, .int r_22)]) hx hb dX10_add_97 hl (by decide) rfl (fun ls hl => ?_)
                have loop99 : ∀ (ddloop99 : Nat) (ii : Int32) (f_33 : Nat → va_E) (H : Heap) (locs : List Loc) (ls : Array Slot), (1000 - ii.toInt).toNat < ddloop99 → IN jn cI cR cM g L S f_33 → FR S [16, 17, 35, 40, 41, 42, 43, 44, 45] f f_33 → (0 ≤ ii.toInt ∧ ii.toInt ≤ 512) → va_P D vwCl (va_pl L f_33) H → va_D A (va_pl L f_33) → va_S A s.heap H locs → lv_has ls 7 [(0, .ref (g 10)), (1, .int x), (2, .int y), (3, .ref r_4), (4, .int r_22), (5, .int r9), (6, .int ii)] → W p l e ({ frames := 5, cells := 0, slots := 0, locals := 108 }) s m args below meth c H locs (0) (0) Q (F0 m 99 ls []) := by
                  intro ddloop99
                  induction ddloop99 with
                  | zero =>
                    intro ii f_33 H locs ls hdd
                    exact absurd hdd (Nat.not_lt_zero _)
                  | succ ddloop99 ih99 =>
                    intro ii f_33 H locs ls hdd hI hF hi hP hD hS hl
                    refine lv_iload hx hb dX10_add_99 (lv_at hl 6 rfl) ?_
                    refine lv_iload hx hb dX10_add_101 (lv_at hl 5 rfl) ?_
                    refine a_icmp_ge (u := ii.toInt) (v := r9.toInt) (tgt := 130) hx hb dX10_add_103 (by decide) (rfl) (rfl) (fun c_34 => ?_) (fun c_34 => ?_)
                    · refine lv_iconst (v := 0) hx hb dX10_add_130 (by decide) ?_
                      refine lv_istore (lv' := [(6, .int 0), (0, .ref (g 10)), (1, .int x), (2, .int y), (3, .ref r_4), (4, .int r_22), (5, .int r9)]) hx hb dX10_add_131 hl (by decide) rfl (fun ls hl => ?_)
                      have loop133 : ∀ (ddloop133 : Nat) (jj : Int32) (f_35 : Nat → va_E) (H : Heap) (locs : List Loc) (ls : Array Slot), (100 - jj.toInt).toNat < ddloop133 → IN jn cI cR cM g L S f_35 → FR S [16, 17, 35, 40, 41, 42, 43, 44, 45] f f_35 → (0 ≤ jj.toInt ∧ jj.toInt ≤ 50) → va_P D vwCl (va_pl L f_35) H → va_D A (va_pl L f_35) → va_S A s.heap H locs → lv_has ls 7 [(0, .ref (g 10)), (1, .int x), (2, .int y), (3, .ref r_4), (4, .int r_22), (5, .int r9), (6, .int jj)] → W p l e ({ frames := 5, cells := 0, slots := 0, locals := 108 }) s m args below meth c H locs (0) (0) Q (F0 m 133 ls []) := by
                        intro ddloop133
                        induction ddloop133 with
                        | zero =>
                          intro jj f_35 H locs ls hdd
                          exact absurd hdd (Nat.not_lt_zero _)
                        | succ ddloop133 ih133 =>
                          intro jj f_35 H locs ls hdd hI hF hi hP hD hS hl
                          refine lv_iload hx hb dX10_add_133 (lv_at hl 6 rfl) ?_
                          refine lv_iload_n hx hb dX10_add_135 rfl (lv_at hl 2 rfl) ?_
                          refine a_icmp_ge (u := jj.toInt) (v := y.toInt) (tgt := 154) hx hb dX10_add_136 (by decide) (rfl) (rfl) (fun c_36 => ?_) (fun c_36 => ?_)
                          · refine lv_aload_n hx hb dX10_add_154 rfl (lv_at hl 0 rfl) ?_
                            have fg_37 := op_10 hI (gm_10 hG) (gs_10 hG)
                            refine t_get (D := D) (L := L) (f := f_35) (ci := 10) (v := .ref (g 17)) (C := RX10) (T := TX10) (N := 8) hx hb hts (by decide +kernel) hown hK.1 hP (gm_10 hG) fg_37 rfl 6 (by decide) (hts (.fieldLink RX10 67 "JugglingHall" "sheet" "LJugglingHall$Sheet;") (by decide +kernel)) (fun _ h9 => h9) rfl dX10_add_155 ?_
                            refine lv_iload hx hb dX10_add_158 (lv_at hl 4 rfl) ?_
                            obtain ⟨len_38, st_38, fg_38, iv0_38, iv1_38⟩ := op_17 hI (gm_17 hG) (gs_17 hG)
                            refine t_putN (D := D) (L := L) (f := f_35) (ci := 6) (v := .int r_22) (ty := .int) (C := RX6) (T := TX6) (N := 4) (host := "JugglingHall") hx hb hts (by decide +kernel) tyX6 tyX6_ok nmX6 hown hK.1 hP hD hS (gm_17 hG) fg_38 rfl 3 (by decide) (hK.nw (.fieldLinkNest RX10 201 "JugglingHall$Sheet" "state" "I" "JugglingHall") (by decide +kernel) rfl) (fun _ h9 => h9) rfl (by decide +kernel) rfl rfl (Nat.le_of_ble_eq_true rfl) dX10_add_160 (fun f_39 H locs e9_39 o_39 hP hD hS => ?_)
                            have fa_39 : f_39 (g 17) = .inr (6, [.ref (g 44), .ref (g 45), .int len_38, .int r_22]) := e9_39
                            have hI := IN_set (e := .inr (6, [.ref (g 44), .ref (g 45), .int len_38, .int r_22])) hI (gs_17 hG) (mk_17 (by first | assumption | omega) (by first | assumption | omega)) fa_39 o_39
                            have hF := FR_set hF (gs_17 hG) (show (17 : Nat) ∈ ([16, 17, 35, 40, 41, 42, 43, 44, 45] : List Nat) by decide) o_39
                            have fb_40 : f_39 (g 10) = .inr (10, [.int (nI jn), .ref (g 11), .ref (g 12), .ref (g 13), .ref (g 15), .ref (g 16), .ref (g 17), .ref (g 18)]) := f_at o_39 (S_ne (gs_10 hG) (gs_17 hG) (show (10 : Nat) ≠ 17 by decide)) fg_37
                            refine lv_aload_n hx hb dX10_add_163 rfl (lv_at hl 0 rfl) ?_
                            refine t_get (D := D) (L := L) (f := f_39) (ci := 10) (v := .ref (g 17)) (C := RX10) (T := TX10) (N := 8) hx hb hts (by decide +kernel) hown hK.1 hP (gm_10 hG) fb_40 rfl 6 (by decide) (hts (.fieldLink RX10 67 "JugglingHall" "sheet" "LJugglingHall$Sheet;") (by decide +kernel)) (fun _ h9 => h9) rfl dX10_add_164 ?_
                            refine t_getN (D := D) (L := L) (f := f_39) (ci := 6) (v := .int len_38) (C := RX6) (T := TX6) (N := 4) (host := "JugglingHall") hx hb hts (by decide +kernel) hown hK.1 hP (gm_17 hG) fa_39 rfl 2 (by decide) (hK.nw (.fieldLinkNest RX10 200 "JugglingHall$Sheet" "length" "I" "JugglingHall") (by decide +kernel) rfl) (fun _ h9 => h9) rfl dX10_add_167 ?_
                            exact g_iret (len_38, f_39) hx hb hr hlocks hS rfl (⟨hI, hF⟩) hP hD hQ (Nat.le_of_ble_eq_true rfl) (Nat.le_of_ble_eq_true rfl) dX10_add_170
                          · refine lv_aload_n hx hb dX10_add_139 rfl (lv_at hl 0 rfl) ?_
                            have fg_41 := op_10 hI (gm_10 hG) (gs_10 hG)
                            refine t_get (D := D) (L := L) (f := f_35) (ci := 10) (v := .ref (g 17)) (C := RX10) (T := TX10) (N := 8) hx hb hts (by decide +kernel) hown hK.1 hP (gm_10 hG) fg_41 rfl 6 (by decide) (hts (.fieldLink RX10 67 "JugglingHall" "sheet" "LJugglingHall$Sheet;") (by decide +kernel)) (fun _ h9 => h9) rfl dX10_add_140 ?_
                            refine lv_aload_n hx hb dX10_add_143 rfl (lv_at hl 3 rfl) ?_
                            refine lv_iload_n hx hb dX10_add_144 rfl (lv_at hl 1 rfl) ?_
                            obtain ⟨len_42, st_42, fg_42, iv0_42, iv1_42⟩ := op_17 hI (gm_17 hG) (gs_17 hG)
                            obtain ⟨len_43, fg_43, v1_43, v2_43, v3_43, mp_43, sp_43⟩ := op_0 hI m_8 s_8
                            obtain ⟨w1_43, w2_43, w3_43, w4_43, w5_43⟩ := lenw hj v1_43 v2_43 v3_43
                            obtain ⟨c_44, fg_44, iv0_44⟩ := op_1 hI mp_9 sp_9
                            refine call_p (va_runV (As := [.ref r_4, .int x]) (rest := []) ⟨hx, hb, hml, hown, hts⟩ (t_X6_writeRow l D cI cR cM _  hj hG hI m_8 s_8 fg_43 fg_44 ) (cwV 2 hts gX10_add_X6_writeRow rfl rfl rfl (by decide +kernel) ⟨Nat.le_of_ble_eq_true rfl, Nat.le_of_ble_eq_true rfl⟩) (pre_T hK hP hD (gm_17 hG) fg_42 rfl) rfl rfl hl.1 rfl (lv_room (Nat.le_of_ble_eq_true rfl)) dX10_add_145 ⟨Nat.le_of_ble_eq_true rfl, Nat.le_of_ble_eq_true rfl⟩) hD hS hA (fun u_45 H locs hw hP hD hS => ?_)
                            obtain ⟨f_45, e0_45⟩ : ∃ x, x = u_45 := ⟨_, rfl⟩
                            subst e0_45
                            obtain ⟨hI, hF_45⟩ : IN jn cI cR cM g L S f_45 ∧ FR S [17, 44, 45] f_35 f_45 := hw
                            have hP : va_P D vwCl (va_pl L f_45) H := hP
                            have hD : va_D A (va_pl L f_45) := hD
                            have hF := FR_tr hF hF_45 (by decide)
                            have fb_46 : f_45 (g 10) = .inr (10, [.int (nI jn), .ref (g 11), .ref (g 12), .ref (g 13), .ref (g 15), .ref (g 16), .ref (g 17), .ref (g 18)]) := FR_at hF_45 (gs_10 hG) (show (10 : Nat) ∉ ([17, 44, 45] : List Nat) by decide) fg_41
                            have fb_47 : f_45 r_4 = .inr (5, [.int (nI jn), .int (nI (2 * jn)), .ref p_8, .int len_43]) := FR_at hF_45 s_8 (show (0 : Nat) ∉ ([17, 44, 45] : List Nat) by decide) fg_43
                            have fb_48 : f_45 p_8 = .inl (cI, n_8, .inl c_44) := FR_at hF_45 sp_9 (show (1 : Nat) ∉ ([17, 44, 45] : List Nat) by decide) fg_44
                            obtain ⟨z_49, q_49, e_49⟩ := i_inc (a := jj.toInt) (1) (rfl) (by decide) (by omega) (by omega)
                            refine lv_iinc (v := z_49) (lv' := [(6, .int z_49), (0, .ref (g 10)), (1, .int x), (2, .int y), (3, .ref r_4), (4, .int r_22), (5, .int r9)]) hx hb dX10_add_148 hl (k := 6) rfl q_49 (by decide) rfl (fun ls hl => ?_)
                            refine lv_goto (tgt := 133) hx hb dX10_add_151 (by decide) ?_
                            exact ih133 z_49 f_45 _ _ _ (by omega) hI hF (by first | assumption | omega) hP hD hS (lv_sub hl [1, 2, 3, 4, 5, 6, 0] rfl)
                      have hz_50 : (0 : Int32).toInt = 0 := by decide
                      exact loop133 ((100 - (0 : Int32).toInt).toNat + 1) (0 : Int32) f_33 _ _ _ (by omega) hI hF (by first | assumption | omega) hP hD hS (lv_sub hl [1, 2, 3, 4, 5, 6, 0] rfl)
                    · refine lv_aload_n hx hb dX10_add_106 rfl (lv_at hl 0 rfl) ?_
                      have fg_51 := op_10 hI (gm_10 hG) (gs_10 hG)
                      refine t_get (D := D) (L := L) (f := f_33) (ci := 10) (v := .ref (g 17)) (C := RX10) (T := TX10) (N := 8) hx hb hts (by decide +kernel) hown hK.1 hP (gm_10 hG) fg_51 rfl 6 (by decide) (hts (.fieldLink RX10 67 "JugglingHall" "sheet" "LJugglingHall$Sheet;") (by decide +kernel)) (fun _ h9 => h9) rfl dX10_add_107 ?_
                      refine lv_aload_n hx hb dX10_add_110 rfl (lv_at hl 0 rfl) ?_
                      refine t_get (D := D) (L := L) (f := f_33) (ci := 10) (v := .ref (g 16)) (C := RX10) (T := TX10) (N := 8) hx hb hts (by decide +kernel) hown hK.1 hP (gm_10 hG) fg_51 rfl 5 (by decide) (hts (.fieldLink RX10 60 "JugglingHall" "ways" "LJugglingHall$Ways;") (by decide +kernel)) (fun _ h9 => h9) rfl dX10_add_111 ?_
                      have fg_52 := op_16 hI (gm_16 hG) (gs_16 hG)
                      refine t_getN (D := D) (L := L) (f := f_33) (ci := 9) (v := .ref (g 43)) (C := RX9) (T := TX9) (N := 4) (host := "JugglingHall") hx hb hts (by decide +kernel) hown hK.1 hP (gm_16 hG) fg_52 rfl 3 (by decide) (hK.nw (.fieldLinkNest RX10 194 "JugglingHall$Ways" "heights" "[I" "JugglingHall") (by decide +kernel) rfl) (fun _ h9 => h9) rfl dX10_add_114 ?_
                      refine lv_iload hx hb dX10_add_117 (lv_at hl 6 rfl) ?_
                      obtain ⟨c_53, fg_53⟩ := op_43 hI (gm_43 hG) (gs_43 hG)
                      refine t_iald (L := L) (f := f_33) (y := c_53) (u := ii.toInt) hx hb hK.1 hP (gm_43 hG) 0 fg_53 rfl dX10_add_119 (rfl) (by omega) (fun z_54 q_54 e_54 => ?_)
                      refine lv_iconst (v := (-1)) hx hb dX10_add_120 (by decide) ?_
                      have hz_55 : (-1 : Int32).toInt = (-1) := by decide
                      obtain ⟨len_56, st_56, fg_56, iv0_56, iv1_56⟩ := op_17 hI (gm_17 hG) (gs_17 hG)
                      refine call_p (va_runV (As := [.int z_54, .int (-1)]) (rest := []) ⟨hx, hb, hml, hown, hts⟩ (t_X6_write l D cI cR cM _  hj hG hI  ) (cwV 2 hts gX10_add_X6_write rfl rfl rfl (by decide +kernel) ⟨Nat.le_of_ble_eq_true rfl, Nat.le_of_ble_eq_true rfl⟩) (pre_T hK hP hD (gm_17 hG) fg_56 rfl) rfl rfl hl.1 rfl (lv_room (Nat.le_of_ble_eq_true rfl)) dX10_add_121 ⟨Nat.le_of_ble_eq_true rfl, Nat.le_of_ble_eq_true rfl⟩) hD hS hA (fun u_57 H locs hw hP hD hS => ?_)
                      obtain ⟨f_57, e0_57⟩ : ∃ x, x = u_57 := ⟨_, rfl⟩
                      subst e0_57
                      obtain ⟨hI, hF_57⟩ : IN jn cI cR cM g L S f_57 ∧ FR S [17, 44, 45] f_33 f_57 := hw
                      have hP : va_P D vwCl (va_pl L f_57) H := hP
                      have hD : va_D A (va_pl L f_57) := hD
                      have hF := FR_tr hF hF_57 (by decide)
                      have fb_58 : f_57 (g 10) = .inr (10, [.int (nI jn), .ref (g 11), .ref (g 12), .ref (g 13), .ref (g 15), .ref (g 16), .ref (g 17), .ref (g 18)]) := FR_at hF_57 (gs_10 hG) (show (10 : Nat) ∉ ([17, 44, 45] : List Nat) by decide) fg_51
                      have fb_59 : f_57 (g 16) = .inr (9, [.ref (g 40), .ref (g 41), .ref (g 42), .ref (g 43)]) := FR_at hF_57 (gs_16 hG) (show (16 : Nat) ∉ ([17, 44, 45] : List Nat) by decide) fg_52
                      have fb_60 : f_57 (g 43) = .inl (cI, 512, .inl c_53) := FR_at hF_57 (gs_43 hG) (show (43 : Nat) ∉ ([17, 44, 45] : List Nat) by decide) fg_53
                      obtain ⟨z_61, q_61, e_61⟩ := i_inc (a := ii.toInt) (1) (rfl) (by decide) (by omega) (by omega)
                      refine lv_iinc (v := z_61) (lv' := [(6, .int z_61), (0, .ref (g 10)), (1, .int x), (2, .int y), (3, .ref r_4), (4, .int r_22), (5, .int r9)]) hx hb dX10_add_124 hl (k := 6) rfl q_61 (by decide) rfl (fun ls hl => ?_)
                      refine lv_goto (tgt := 99) hx hb dX10_add_127 (by decide) ?_
                      exact ih99 z_61 f_57 _ _ _ (by omega) hI hF (by first | assumption | omega) hP hD hS (lv_sub hl [1, 2, 3, 4, 5, 6, 0] rfl)
                have hz_62 : (0 : Int32).toInt = 0 := by decide
                exact loop99 ((1000 - (0 : Int32).toInt).toNat + 1) (0 : Int32) f_23 _ _ _ (by omega) hI hF (by first | assumption | omega) hP hD hS (lv_sub hl [2, 3, 4, 5, 6, 1, 0] rfl)
              · refine lv_iconst (v := (-1)) hx hb dX10_add_94 (by decide) ?_
                have hz_63 : (-1 : Int32).toInt = (-1) := by decide
                exact g_iret ((-1 : Int32), f_23) hx hb hr hlocks hS rfl (⟨hI, hF⟩) hP hD hQ (Nat.le_of_ble_eq_true rfl) (Nat.le_of_ble_eq_true rfl) dX10_add_95
          refine lv_aload_n hx hb dX10_add_37 rfl (lv_at hl 2 rfl) ?_
          refine t_get (D := D) (L := L) (f := f_11) (ci := 10) (v := .ref (g 17)) (C := RX10) (T := TX10) (N := 8) hx hb hts (by decide +kernel) hown hK.1 hP (gm_10 hG) fb_12 rfl 6 (by decide) (hts (.fieldLink RX10 67 "JugglingHall" "sheet" "LJugglingHall$Sheet;") (by decide +kernel)) (fun _ h9 => h9) rfl dX10_add_38 ?_
          obtain ⟨len_64, st_64, fg_64, iv0_64, iv1_64⟩ := op_17 hI (gm_17 hG) (gs_17 hG)
          refine t_getN (D := D) (L := L) (f := f_11) (ci := 6) (v := .int len_64) (C := RX6) (T := TX6) (N := 4) (host := "JugglingHall") hx hb hts (by decide +kernel) hown hK.1 hP (gm_17 hG) fg_64 rfl 2 (by decide) (hK.nw (.fieldLinkNest RX10 200 "JugglingHall$Sheet" "length" "I" "JugglingHall") (by decide +kernel) rfl) (fun _ h9 => h9) rfl dX10_add_41 ?_
          refine a_if_ne (u := len_64.toInt) (tgt := 51) hx hb dX10_add_44 (by decide) (rfl) (fun c_65 => ?_) (fun c_65 => ?_)
          · refine lv_aload_n hx hb dX10_add_51 rfl (lv_at hl 2 rfl) ?_
            refine t_get (D := D) (L := L) (f := f_11) (ci := 10) (v := .ref (g 16)) (C := RX10) (T := TX10) (N := 8) hx hb hts (by decide +kernel) hown hK.1 hP (gm_10 hG) fb_12 rfl 5 (by decide) (hts (.fieldLink RX10 60 "JugglingHall" "ways" "LJugglingHall$Ways;") (by decide +kernel)) (fun _ h9 => h9) rfl dX10_add_52 ?_
            refine lv_aload_n hx hb dX10_add_55 rfl (lv_at hl 2 rfl) ?_
            refine t_get (D := D) (L := L) (f := f_11) (ci := 10) (v := .ref (g 17)) (C := RX10) (T := TX10) (N := 8) hx hb hts (by decide +kernel) hown hK.1 hP (gm_10 hG) fb_12 rfl 6 (by decide) (hts (.fieldLink RX10 67 "JugglingHall" "sheet" "LJugglingHall$Sheet;") (by decide +kernel)) (fun _ h9 => h9) rfl dX10_add_56 ?_
            refine t_getN (D := D) (L := L) (f := f_11) (ci := 6) (v := .int st_64) (C := RX6) (T := TX6) (N := 4) (host := "JugglingHall") hx hb hts (by decide +kernel) hown hK.1 hP (gm_17 hG) fg_64 rfl 3 (by decide) (hK.nw (.fieldLinkNest RX10 201 "JugglingHall$Sheet" "state" "I" "JugglingHall") (by decide +kernel) rfl) (fun _ h9 => h9) rfl dX10_add_59 ?_
            refine lv_iload hx hb dX10_add_62 (lv_at hl 0 rfl) ?_
            have fg_66 := op_16 hI (gm_16 hG) (gs_16 hG)
            obtain ⟨c_67, fg_67⟩ := op_40 hI (gm_40 hG) (gs_40 hG)
            obtain ⟨c_68, fg_68⟩ := op_41 hI (gm_41 hG) (gs_41 hG)
            obtain ⟨c_69, fg_69⟩ := op_42 hI (gm_42 hG) (gs_42 hG)
            obtain ⟨c_70, fg_70⟩ := op_43 hI (gm_43 hG) (gs_43 hG)
            by_cases hin_71 : ∃ a b : Nat, a < 512 ∧ b < 512 ∧ st_64 = nI a ∧ r_22 = nI b
            · have hq_71 : ∀ q ∈ ([(g 16, .inr (9, [.ref (g 40), .ref (g 41), .ref (g 42), .ref (g 43)])), (g 40, .inl (cI, 512, .inl c_67)), (g 41, .inl (cI, 512, .inl c_68)), (g 42, .inl (cI, 512, .inl c_69)), (g 43, .inl (cI, 512, .inl c_70))] : va_W), q.1 ∈ L ∧ f_11 q.1 = q.2 := List.forall_mem_cons.mpr ⟨⟨(gm_16 hG), fg_66⟩, List.forall_mem_cons.mpr ⟨⟨(gm_40 hG), fg_67⟩, List.forall_mem_cons.mpr ⟨⟨(gm_41 hG), fg_68⟩, List.forall_mem_cons.mpr ⟨⟨(gm_42 hG), fg_69⟩, List.forall_mem_cons.mpr ⟨⟨(gm_43 hG), fg_70⟩, fun _ h9 => absurd h9 (List.not_mem_nil)⟩⟩⟩⟩⟩
              have hPc := p_list hP hq_71
              have hDc : va_D (fun _ => True) ([(g 16, .inr (9, [.ref (g 40), .ref (g 41), .ref (g 42), .ref (g 43)])), (g 40, .inl (cI, 512, .inl c_67)), (g 41, .inl (cI, 512, .inl c_68)), (g 42, .inl (cI, 512, .inl c_69)), (g 43, .inl (cI, 512, .inl c_70))] : va_W) := d_list (show (([(g 16, .inr (9, [.ref (g 40), .ref (g 41), .ref (g 42), .ref (g 43)])), (g 40, .inl (cI, 512, .inl c_67)), (g 41, .inl (cI, 512, .inl c_68)), (g 42, .inl (cI, 512, .inl c_69)), (g 43, .inl (cI, 512, .inl c_70))] : va_W).map Prod.fst).Nodup from sg_nd hG [16, 40, 41, 42, 43] (by decide) (by decide))
              obtain ⟨a_71, b_71, ha_71, hb_71, ea_71, eb_71⟩ := hin_71
              refine W.eq (g2 := F0 m 64 ls [.int (nI b_71), .int (nI a_71), .ref (g 16)]) (by rw [ea_71, eb_71]) ?_
              refine call_sub (L := L) (f := f_11) (va_runV (As := [.int (nI a_71), .int (nI b_71)]) (rest := []) ⟨hx, hb, hml, hown, hts⟩ (c_find_in l D cI cR cM _ ha_71 hb_71 (g 16) (g 40) (g 41) (g 42) (g 43) c_67 c_68 c_69 c_70) (cwV 2 hts gX10_add_X9_find rfl rfl rfl (by decide +kernel) ⟨Nat.le_of_ble_eq_true rfl, Nat.le_of_ble_eq_true rfl⟩) (pre_V hK hPc hDc 0 9 rfl rfl) rfl rfl hl.1 rfl (lv_room (Nat.le_of_ble_eq_true rfl)) dX10_add_64 ⟨Nat.le_of_ble_eq_true rfl, Nat.le_of_ble_eq_true rfl⟩) hP hD hS hA (fun q hq => (hq_71 q hq).1) (fun _ => rfl) (fun u_71 f_71 H locs hw_71 hf_71 ho_71 hP hD hS => ?_)
              have hF_71 : FR S [16, 40, 41, 42, 43] f_11 f_71 := fun b hb9 => ho_71 b (fun h9 => hb9 (sg_in hG h9 (ks := [16, 40, 41, 42, 43]) (by decide) (by decide)))
              have hI := IN_at (ks := [16, 40, 41, 42, 43]) hI ho_71 (List.forall_mem_cons.mpr ⟨ok_at (gs_16 hG) (hf_71 _ (List.mem_cons_self ..)) mk_16, List.forall_mem_cons.mpr ⟨ok_at (gs_40 hG) (hf_71 _ (List.mem_cons_of_mem _ (List.mem_cons_self ..))) mk_40, List.forall_mem_cons.mpr ⟨ok_at (gs_41 hG) (hf_71 _ (List.mem_cons_of_mem _ (List.mem_cons_of_mem _ (List.mem_cons_self ..)))) mk_41, List.forall_mem_cons.mpr ⟨ok_at (gs_42 hG) (hf_71 _ (List.mem_cons_of_mem _ (List.mem_cons_of_mem _ (List.mem_cons_of_mem _ (List.mem_cons_self ..))))) mk_42, List.forall_mem_cons.mpr ⟨ok_at (gs_43 hG) (hf_71 _ (List.mem_cons_of_mem _ (List.mem_cons_of_mem _ (List.mem_cons_of_mem _ (List.mem_cons_of_mem _ (List.mem_cons_self ..)))))) mk_43, fun _ h9 => absurd h9 (List.not_mem_nil)⟩⟩⟩⟩⟩)
              obtain ⟨r_71, v1_71, v2_71, v3_71, v4_71⟩ := u_71
              have hr_71 : -1 ≤ r_71.toInt ∧ r_71.toInt ≤ 511 := by
                rcases hw_71 with ⟨-, h9⟩ | ⟨hs9, -, h8, h9, -⟩
                · have h9 : r_71 = -1 := h9
                  rw [h9]; decide
                · have h9 : r_71 = nI hs9.length := h9
                  rw [h9, nI_toInt (by omega)]; omega
              have hF := FR_tr hF hF_71 (by decide)
              have hP : va_P D vwCl (va_pl L f_71) H := hP
              have hD : va_D A (va_pl L f_71) := hD
              have fb_72 : f_71 (g 10) = .inr (10, [.int (nI jn), .ref (g 11), .ref (g 12), .ref (g 13), .ref (g 15), .ref (g 16), .ref (g 17), .ref (g 18)]) := FR_at hF_71 (gs_10 hG) (show (10 : Nat) ∉ ([16, 40, 41, 42, 43] : List Nat) by decide) fb_12
              have fb_73 : f_71 (g 12) = .inr (0, [.ref (g 20), .ref (g 21), .int tm_2, .int lk_2]) := FR_at hF_71 (gs_12 hG) (show (12 : Nat) ∉ ([16, 40, 41, 42, 43] : List Nat) by decide) fb_13
              have fb_74 : f_71 r_4 = .inr (5, [.int (nI jn), .int (nI (2 * jn)), .ref p_8, .int len_9]) := FR_at hF_71 s_8 (show (0 : Nat) ∉ ([16, 40, 41, 42, 43] : List Nat) by decide) fb_14
              have fb_75 : f_71 p_8 = .inl (cI, n_8, .inl c_10) := FR_at hF_71 sp_9 (show (1 : Nat) ∉ ([16, 40, 41, 42, 43] : List Nat) by decide) fb_15
              have fb_76 : f_71 (g 17) = .inr (6, [.ref (g 44), .ref (g 45), .int len_64, .int st_64]) := FR_at hF_71 (gs_17 hG) (show (17 : Nat) ∉ ([16, 40, 41, 42, 43] : List Nat) by decide) fg_64
              exact join23 r_71 f_71 _ _ _ hI hF (by first | assumption | omega) hP hD hS (lv_sub hl [2, 3, 4, 1, 0] rfl)
            · have hq_71 : ∀ q ∈ ([(g 16, .inr (9, [.ref (g 40), .ref (g 41), .ref (g 42), .ref (g 43)]))] : va_W), q.1 ∈ L ∧ f_11 q.1 = q.2 := List.forall_mem_cons.mpr ⟨⟨(gm_16 hG), fg_66⟩, fun _ h9 => absurd h9 (List.not_mem_nil)⟩
              have hPc := p_list hP hq_71
              have hDc : va_D (fun _ => True) ([(g 16, .inr (9, [.ref (g 40), .ref (g 41), .ref (g 42), .ref (g 43)]))] : va_W) := d_list (show (([(g 16, .inr (9, [.ref (g 40), .ref (g 41), .ref (g 42), .ref (g 43)]))] : va_W).map Prod.fst).Nodup from sg_nd hG [16] (by decide) (by decide))
              refine call_sub (L := L) (f := f_11) (va_runV (As := [.int st_64, .int r_22]) (rest := []) ⟨hx, hb, hml, hown, hts⟩ (c_find_out l D cI cR cM _ st_64 r_22 hin_71 (g 16) (g 40) (g 41) (g 42) (g 43)) (cwV 2 hts gX10_add_X9_find rfl rfl rfl (by decide +kernel) ⟨Nat.le_of_ble_eq_true rfl, Nat.le_of_ble_eq_true rfl⟩) (pre_V hK hPc hDc 0 9 rfl rfl) rfl rfl hl.1 rfl (lv_room (Nat.le_of_ble_eq_true rfl)) dX10_add_64 ⟨Nat.le_of_ble_eq_true rfl, Nat.le_of_ble_eq_true rfl⟩) hP hD hS hA (fun q hq => (hq_71 q hq).1) (fun _ => rfl) (fun u_71 f_71 H locs hw_71 hf_71 ho_71 hP hD hS => ?_)
              have hF_71 : FR S [16, 40, 41, 42, 43] f_11 f_71 := fun b hb9 => ho_71 b (fun h9 => hb9 (sg_in hG h9 (ks := [16]) (by decide) (by decide)))
              have hI := IN_at (ks := [16]) hI ho_71 (List.forall_mem_cons.mpr ⟨ok_at (gs_16 hG) (hf_71 _ (List.mem_cons_self ..)) mk_16, fun _ h9 => absurd h9 (List.not_mem_nil)⟩)
              have hF := FR_tr hF hF_71 (by decide)
              have hP : va_P D vwCl (va_pl L f_71) H := hP
              have hD : va_D A (va_pl L f_71) := hD
              have fb_77 : f_71 (g 10) = .inr (10, [.int (nI jn), .ref (g 11), .ref (g 12), .ref (g 13), .ref (g 15), .ref (g 16), .ref (g 17), .ref (g 18)]) := FR_at hF_71 (gs_10 hG) (show (10 : Nat) ∉ ([16, 40, 41, 42, 43] : List Nat) by decide) fb_12
              have fb_78 : f_71 (g 12) = .inr (0, [.ref (g 20), .ref (g 21), .int tm_2, .int lk_2]) := FR_at hF_71 (gs_12 hG) (show (12 : Nat) ∉ ([16, 40, 41, 42, 43] : List Nat) by decide) fb_13
              have fb_79 : f_71 r_4 = .inr (5, [.int (nI jn), .int (nI (2 * jn)), .ref p_8, .int len_9]) := FR_at hF_71 s_8 (show (0 : Nat) ∉ ([16, 40, 41, 42, 43] : List Nat) by decide) fb_14
              have fb_80 : f_71 p_8 = .inl (cI, n_8, .inl c_10) := FR_at hF_71 sp_9 (show (1 : Nat) ∉ ([16, 40, 41, 42, 43] : List Nat) by decide) fb_15
              have fb_81 : f_71 (g 17) = .inr (6, [.ref (g 44), .ref (g 45), .int len_64, .int st_64]) := FR_at hF_71 (gs_17 hG) (show (17 : Nat) ∉ ([16, 40, 41, 42, 43] : List Nat) by decide) fg_64
              have hz_82 : (-1 : Int32).toInt = (-1) := by decide
              exact join23 (-1 : Int32) f_71 _ _ _ hI hF (by first | assumption | omega) hP hD hS (lv_sub hl [2, 3, 4, 1, 0] rfl)
          · refine lv_iconst (v := 0) hx hb dX10_add_47 (by decide) ?_
            refine lv_goto (tgt := 67) hx hb dX10_add_48 (by decide) ?_
            have hz_83 : (0 : Int32).toInt = 0 := by decide
            exact join23 (0 : Int32) f_11 _ _ _ hI hF (by first | assumption | omega) hP hD hS (lv_sub hl [2, 3, 4, 1, 0] rfl)
        · refine lv_iconst (v := (-1)) hx hb dX10_add_28 (by decide) ?_
          have hz_84 : (-1 : Int32).toInt = (-1) := by decide
          exact g_iret ((-1 : Int32), f_11) hx hb hr hlocks hS rfl (⟨hI, hF⟩) hP hD hQ (Nat.le_of_ble_eq_true rfl) (Nat.le_of_ble_eq_true rfl) dX10_add_29
