theorem dX11_isPlainRow_0 : decode cX11_isPlainRow 0 = .ok (.iconst 0, 1) := by decide +kernel
theorem dX11_isPlainRow_1 : decode cX11_isPlainRow 1 = .ok (.istore_n 2, 1) := by decide +kernel
theorem dX11_isPlainRow_2 : decode cX11_isPlainRow 2 = .ok (.iload_n 2, 1) := by decide +kernel
theorem dX11_isPlainRow_3 : decode cX11_isPlainRow 3 = .ok (.aload_n 0, 1) := by decide +kernel
theorem dX11_isPlainRow_4 : decode cX11_isPlainRow 4 = .ok (.getfield 8, 3) := by decide +kernel
theorem dX11_isPlainRow_7 : decode cX11_isPlainRow 7 = .ok (.iload_n 1, 1) := by decide +kernel
theorem dX11_isPlainRow_8 : decode cX11_isPlainRow 8 = .ok (.iaload, 1) := by decide +kernel
theorem dX11_isPlainRow_9 : decode cX11_isPlainRow 9 = .ok (.if_icmp .ge 22, 3) := by decide +kernel
theorem dX11_isPlainRow_12 : decode cX11_isPlainRow 12 = .ok (.aload_n 0, 1) := by decide +kernel
theorem dX11_isPlainRow_13 : decode cX11_isPlainRow 13 = .ok (.iload_n 1, 1) := by decide +kernel
theorem dX11_isPlainRow_14 : decode cX11_isPlainRow 14 = .ok (.iload_n 2, 1) := by decide +kernel
theorem dX11_isPlainRow_15 : decode cX11_isPlainRow 15 = .ok (.iconst 0, 1) := by decide +kernel
theorem dX11_isPlainRow_16 : decode cX11_isPlainRow 16 = .ok (.iconst 1, 1) := by decide +kernel
theorem dX11_isPlainRow_17 : decode cX11_isPlainRow 17 = .ok (.invokevirtual 239, 3) := by decide +kernel
theorem dX11_isPlainRow_20 : decode cX11_isPlainRow 20 = .ok (.ifCond .le 5, 3) := by decide +kernel
theorem dX11_isPlainRow_23 : decode cX11_isPlainRow 23 = .ok (.iconst 0, 1) := by decide +kernel
theorem dX11_isPlainRow_24 : decode cX11_isPlainRow 24 = .ok (.ireturn, 1) := by decide +kernel
theorem dX11_isPlainRow_25 : decode cX11_isPlainRow 25 = .ok (.iinc 2 1, 3) := by decide +kernel
theorem dX11_isPlainRow_28 : decode cX11_isPlainRow 28 = .ok (.goto (-26), 3) := by decide +kernel
theorem dX11_isPlainRow_31 : decode cX11_isPlainRow 31 = .ok (.aload_n 0, 1) := by decide +kernel
theorem dX11_isPlainRow_32 : decode cX11_isPlainRow 32 = .ok (.getfield 93, 3) := by decide +kernel
theorem dX11_isPlainRow_35 : decode cX11_isPlainRow 35 = .ok (.iconst 1, 1) := by decide +kernel
theorem dX11_isPlainRow_36 : decode cX11_isPlainRow 36 = .ok (.if_icmp .ne 7, 3) := by decide +kernel
theorem dX11_isPlainRow_39 : decode cX11_isPlainRow 39 = .ok (.iconst 1, 1) := by decide +kernel
theorem dX11_isPlainRow_40 : decode cX11_isPlainRow 40 = .ok (.goto 4, 3) := by decide +kernel
theorem dX11_isPlainRow_43 : decode cX11_isPlainRow 43 = .ok (.iconst 0, 1) := by decide +kernel
theorem dX11_isPlainRow_44 : decode cX11_isPlainRow 44 = .ok (.ireturn, 1) := by decide +kernel
theorem dX11_seenRow_0 : decode cX11_seenRow 0 = .ok (.aload_n 0, 1) := by decide +kernel
theorem dX11_seenRow_1 : decode cX11_seenRow 1 = .ok (.getfield 104, 3) := by decide +kernel
theorem dX11_seenRow_4 : decode cX11_seenRow 4 = .ok (.istore_n 1, 1) := by decide +kernel
theorem dX11_seenRow_5 : decode cX11_seenRow 5 = .ok (.iload_n 1, 1) := by decide +kernel
theorem dX11_seenRow_6 : decode cX11_seenRow 6 = .ok (.ifCond .le 26, 3) := by decide +kernel
theorem dX11_seenRow_9 : decode cX11_seenRow 9 = .ok (.aload_n 0, 1) := by decide +kernel
theorem dX11_seenRow_10 : decode cX11_seenRow 10 = .ok (.getfield 14, 3) := by decide +kernel
theorem dX11_seenRow_13 : decode cX11_seenRow 13 = .ok (.bipush 8, 2) := by decide +kernel
theorem dX11_seenRow_15 : decode cX11_seenRow 15 = .ok (.iload_n 1, 1) := by decide +kernel
theorem dX11_seenRow_16 : decode cX11_seenRow 16 = .ok (.imul, 1) := by decide +kernel
theorem dX11_seenRow_17 : decode cX11_seenRow 17 = .ok (.iaload, 1) := by decide +kernel
theorem dX11_seenRow_18 : decode cX11_seenRow 18 = .ok (.ifCond .le 8, 3) := by decide +kernel
theorem dX11_seenRow_21 : decode cX11_seenRow 21 = .ok (.bipush 8, 2) := by decide +kernel
theorem dX11_seenRow_23 : decode cX11_seenRow 23 = .ok (.iload_n 1, 1) := by decide +kernel
theorem dX11_seenRow_24 : decode cX11_seenRow 24 = .ok (.imul, 1) := by decide +kernel
theorem dX11_seenRow_25 : decode cX11_seenRow 25 = .ok (.ireturn, 1) := by decide +kernel
theorem dX11_seenRow_26 : decode cX11_seenRow 26 = .ok (.iinc 1 (-1), 3) := by decide +kernel
theorem dX11_seenRow_29 : decode cX11_seenRow 29 = .ok (.goto (-24), 3) := by decide +kernel
theorem dX11_seenRow_32 : decode cX11_seenRow 32 = .ok (.iconst (-1), 1) := by decide +kernel
theorem dX11_seenRow_33 : decode cX11_seenRow 33 = .ok (.ireturn, 1) := by decide +kernel
theorem dX11_seen_0 : decode cX11_seen 0 = .ok (.aload_n 0, 1) := by decide +kernel
theorem dX11_seen_1 : decode cX11_seen 1 = .ok (.invokevirtual 323, 3) := by decide +kernel
theorem dX11_seen_4 : decode cX11_seen 4 = .ok (.istore_n 2, 1) := by decide +kernel
theorem dX11_seen_5 : decode cX11_seen 5 = .ok (.iload_n 1, 1) := by decide +kernel
theorem dX11_seen_6 : decode cX11_seen 6 = .ok (.ifCond .ne 18, 3) := by decide +kernel
theorem dX11_seen_9 : decode cX11_seen 9 = .ok (.iload_n 2, 1) := by decide +kernel
theorem dX11_seen_10 : decode cX11_seen 10 = .ok (.ifCond .ge 7, 3) := by decide +kernel
theorem dX11_seen_13 : decode cX11_seen 13 = .ok (.iconst 0, 1) := by decide +kernel
theorem dX11_seen_14 : decode cX11_seen 14 = .ok (.goto 9, 3) := by decide +kernel
theorem dX11_seen_17 : decode cX11_seen 17 = .ok (.aload_n 0, 1) := by decide +kernel
theorem dX11_seen_18 : decode cX11_seen 18 = .ok (.getfield 14, 3) := by decide +kernel
theorem dX11_seen_21 : decode cX11_seen 21 = .ok (.iload_n 2, 1) := by decide +kernel
theorem dX11_seen_22 : decode cX11_seen 22 = .ok (.iaload, 1) := by decide +kernel
theorem dX11_seen_23 : decode cX11_seen 23 = .ok (.ireturn, 1) := by decide +kernel
theorem dX11_seen_24 : decode cX11_seen 24 = .ok (.iload_n 2, 1) := by decide +kernel
theorem dX11_seen_25 : decode cX11_seen 25 = .ok (.ifCond .lt 21, 3) := by decide +kernel
theorem dX11_seen_28 : decode cX11_seen 28 = .ok (.iload_n 1, 1) := by decide +kernel
theorem dX11_seen_29 : decode cX11_seen 29 = .ok (.bipush 10, 2) := by decide +kernel
theorem dX11_seen_31 : decode cX11_seen 31 = .ok (.bipush 9, 2) := by decide +kernel
theorem dX11_seen_33 : decode cX11_seen 33 = .ok (.aload_n 0, 1) := by decide +kernel
theorem dX11_seen_34 : decode cX11_seen 34 = .ok (.getfield 14, 3) := by decide +kernel
theorem dX11_seen_37 : decode cX11_seen 37 = .ok (.iload_n 2, 1) := by decide +kernel
theorem dX11_seen_38 : decode cX11_seen 38 = .ok (.iaload, 1) := by decide +kernel
theorem dX11_seen_39 : decode cX11_seen 39 = .ok (.iadd, 1) := by decide +kernel
theorem dX11_seen_40 : decode cX11_seen 40 = .ok (.invokestatic 100, 3) := by decide +kernel
theorem dX11_seen_43 : decode cX11_seen 43 = .ok (.ifCond .ne 5, 3) := by decide +kernel
theorem dX11_seen_46 : decode cX11_seen 46 = .ok (.iconst (-1), 1) := by decide +kernel
theorem dX11_seen_47 : decode cX11_seen 47 = .ok (.ireturn, 1) := by decide +kernel
theorem dX11_seen_48 : decode cX11_seen 48 = .ok (.aload_n 0, 1) := by decide +kernel
theorem dX11_seen_49 : decode cX11_seen 49 = .ok (.getfield 14, 3) := by decide +kernel
theorem dX11_seen_52 : decode cX11_seen 52 = .ok (.iload_n 2, 1) := by decide +kernel
theorem dX11_seen_53 : decode cX11_seen 53 = .ok (.iload_n 1, 1) := by decide +kernel
theorem dX11_seen_54 : decode cX11_seen 54 = .ok (.iadd, 1) := by decide +kernel
theorem dX11_seen_55 : decode cX11_seen 55 = .ok (.bipush 9, 2) := by decide +kernel
theorem dX11_seen_57 : decode cX11_seen 57 = .ok (.isub, 1) := by decide +kernel
theorem dX11_seen_58 : decode cX11_seen 58 = .ok (.iaload, 1) := by decide +kernel
theorem dX11_seen_59 : decode cX11_seen 59 = .ok (.istore_n 3, 1) := by decide +kernel
theorem dX11_seen_60 : decode cX11_seen 60 = .ok (.iload_n 3, 1) := by decide +kernel
theorem dX11_seen_61 : decode cX11_seen 61 = .ok (.bipush 10, 2) := by decide +kernel
theorem dX11_seen_63 : decode cX11_seen 63 = .ok (.if_icmp .ne 7, 3) := by decide +kernel
theorem dX11_seen_66 : decode cX11_seen 66 = .ok (.iconst (-1), 1) := by decide +kernel
theorem dX11_seen_67 : decode cX11_seen 67 = .ok (.goto 4, 3) := by decide +kernel
theorem dX11_seen_70 : decode cX11_seen 70 = .ok (.iload_n 3, 1) := by decide +kernel
theorem dX11_seen_71 : decode cX11_seen 71 = .ok (.ireturn, 1) := by decide +kernel
theorem dX11_about_0 : decode cX11_about 0 = .ok (.iconst 0, 1) := by decide +kernel
theorem dX11_about_1 : decode cX11_about 1 = .ok (.istore_n 2, 1) := by decide +kernel
theorem dX11_about_2 : decode cX11_about 2 = .ok (.iload_n 1, 1) := by decide +kernel
theorem dX11_about_3 : decode cX11_about 3 = .ok (.tableswitch 94 0 5 #[37, 42, 47, 52, 57, 62], 37) := by decide +kernel
theorem dX11_about_40 : decode cX11_about 40 = .ok (.aload_n 0, 1) := by decide +kernel
theorem dX11_about_41 : decode cX11_about 41 = .ok (.getfield 93, 3) := by decide +kernel
theorem dX11_about_44 : decode cX11_about 44 = .ok (.ireturn, 1) := by decide +kernel
theorem dX11_about_45 : decode cX11_about 45 = .ok (.aload_n 0, 1) := by decide +kernel
theorem dX11_about_46 : decode cX11_about 46 = .ok (.getfield 185, 3) := by decide +kernel
theorem dX11_about_49 : decode cX11_about 49 = .ok (.ireturn, 1) := by decide +kernel
theorem dX11_about_50 : decode cX11_about 50 = .ok (.aload_n 0, 1) := by decide +kernel
theorem dX11_about_51 : decode cX11_about 51 = .ok (.getfield 104, 3) := by decide +kernel
theorem dX11_about_54 : decode cX11_about 54 = .ok (.ireturn, 1) := by decide +kernel
theorem dX11_about_55 : decode cX11_about 55 = .ok (.aload_n 0, 1) := by decide +kernel
theorem dX11_about_56 : decode cX11_about 56 = .ok (.getfield 110, 3) := by decide +kernel
theorem dX11_about_59 : decode cX11_about 59 = .ok (.ireturn, 1) := by decide +kernel
theorem dX11_about_60 : decode cX11_about 60 = .ok (.aload_n 0, 1) := by decide +kernel
theorem dX11_about_61 : decode cX11_about 61 = .ok (.getfield 310, 3) := by decide +kernel
theorem dX11_about_64 : decode cX11_about 64 = .ok (.ireturn, 1) := by decide +kernel
theorem dX11_about_65 : decode cX11_about 65 = .ok (.iconst 0, 1) := by decide +kernel
theorem dX11_about_66 : decode cX11_about 66 = .ok (.istore_n 3, 1) := by decide +kernel
theorem dX11_about_67 : decode cX11_about 67 = .ok (.iload_n 3, 1) := by decide +kernel
theorem dX11_about_68 : decode cX11_about 68 = .ok (.bipush 8, 2) := by decide +kernel
theorem dX11_about_70 : decode cX11_about 70 = .ok (.if_icmp .ge 25, 3) := by decide +kernel
theorem dX11_about_73 : decode cX11_about 73 = .ok (.iload_n 2, 1) := by decide +kernel
theorem dX11_about_74 : decode cX11_about 74 = .ok (.aload_n 0, 1) := by decide +kernel
theorem dX11_about_75 : decode cX11_about 75 = .ok (.iload_n 3, 1) := by decide +kernel
theorem dX11_about_76 : decode cX11_about 76 = .ok (.invokevirtual 233, 3) := by decide +kernel
theorem dX11_about_79 : decode cX11_about 79 = .ok (.ifCond .lt 7, 3) := by decide +kernel
theorem dX11_about_82 : decode cX11_about 82 = .ok (.iconst 1, 1) := by decide +kernel
theorem dX11_about_83 : decode cX11_about 83 = .ok (.goto 4, 3) := by decide +kernel
theorem dX11_about_86 : decode cX11_about 86 = .ok (.iconst 0, 1) := by decide +kernel
theorem dX11_about_87 : decode cX11_about 87 = .ok (.iadd, 1) := by decide +kernel
theorem dX11_about_88 : decode cX11_about 88 = .ok (.istore_n 2, 1) := by decide +kernel
theorem dX11_about_89 : decode cX11_about 89 = .ok (.iinc 3 1, 3) := by decide +kernel
theorem dX11_about_92 : decode cX11_about 92 = .ok (.goto (-25), 3) := by decide +kernel
theorem dX11_about_95 : decode cX11_about 95 = .ok (.iload_n 2, 1) := by decide +kernel
theorem dX11_about_96 : decode cX11_about 96 = .ok (.ireturn, 1) := by decide +kernel
theorem dX11_about_97 : decode cX11_about 97 = .ok (.iconst (-1), 1) := by decide +kernel
theorem dX11_about_98 : decode cX11_about 98 = .ok (.ireturn, 1) := by decide +kernel
set_option maxRecDepth 20000 in
theorem ggX11_isPlainRow_X11_heightAt : GoodIn wsX11_isPlainRow wsX11_heightAt := goodIn_r _ [7, 1, 8, 9, 10, 11, 12, 13, 14, 15, 16, 17, 18, 19, 20, 21, 22, 23, 24, 25, 26, 27, 28, 29, 30, 31, 32, 33, 34, 35, 36, 37, 38, 39, 40, 41, 42, 43, 44, 45, 46, 47, 48, 49, 50, 51, 52, 53, 54] (by decide +kernel) (by decide +kernel)
set_option maxRecDepth 20000 in
theorem gX11_isPlainRow_X11_heightAt : GoodIn wsX11_isPlainRow (wsV RX11 239 RX11 yX11_heightAt wsX11_heightAt) := goodIn_app (goodIn_of _ (by decide +kernel)) ggX11_isPlainRow_X11_heightAt
set_option maxRecDepth 20000 in
theorem ggX11_seen_X11_seenRow : GoodIn wsX11_seen wsX11_seenRow := goodIn_r _ [6, 7, 1, 11, 12, 13, 14, 15, 16, 17, 18, 19, 20, 21, 22, 23, 24, 25, 26, 27, 28, 29, 30, 31, 32, 33, 34, 35, 36, 37, 38, 39, 40, 41, 42, 43, 44, 45, 46, 47, 48, 49, 50, 51, 52, 53, 54, 55, 56, 57] (by decide +kernel) (by decide +kernel)
set_option maxRecDepth 20000 in
theorem gX11_seen_X11_seenRow : GoodIn wsX11_seen (wsV RX11 323 RX11 yX11_seenRow wsX11_seenRow) := goodIn_app (goodIn_of _ (by decide +kernel)) ggX11_seen_X11_seenRow
set_option maxRecDepth 20000 in
theorem ggX11_seen_X11_isIn : GoodIn wsX11_seen wsX11_isIn := goodIn_r _ [10] (by decide +kernel) (by decide +kernel)
set_option maxRecDepth 20000 in
theorem gX11_seen_X11_isIn : GoodIn wsX11_seen (va_wsS RX11 100 yX11_isIn wsX11_isIn) := goodIn_app (goodIn_of _ (by decide +kernel)) ggX11_seen_X11_isIn
set_option maxRecDepth 20000 in
theorem ggX11_about_X11_rowOf : GoodIn wsX11_about wsX11_rowOf := goodIn_r _ [10, 3, 11, 12, 9, 13, 14, 15, 16, 17, 18, 19, 20, 21, 22, 23, 24, 25, 26, 27, 28, 29, 30, 31, 32, 33, 34, 35, 36, 37, 38, 39, 40, 41, 42, 43, 44, 45, 46, 47, 48, 49, 50, 51, 52, 53, 54, 55, 56, 57, 58, 59, 60, 61, 62, 63, 64, 65, 66, 67, 68] (by decide +kernel) (by decide +kernel)
set_option maxRecDepth 20000 in
theorem gX11_about_X11_rowOf : GoodIn wsX11_about (wsV RX11 233 RX11 yX11_rowOf wsX11_rowOf) := goodIn_app (goodIn_of _ (by decide +kernel)) ggX11_about_X11_rowOf
/-- what was seen at each time: at most seven marks, each 0 .. 10 -/
def SeenX (c : Nat → Int32) : Prop := ∀ t : Int, 0 ≤ t → t ≤ 60 → 0 ≤ (c (8 * t).toNat).toInt ∧ (c (8 * t).toNat).toInt ≤ 7 ∧ ∀ i : Int, 1 ≤ i → i ≤ 7 → 0 ≤ (c (8 * t + i).toNat).toInt ∧ (c (8 * t + i).toNat).toInt ≤ 10
def IsSeen (c : Nat → Int32) (r : Int) : Prop := 0 ≤ r ∧ r ≤ 480 ∧ 1 ≤ (c r.toNat).toInt ∧ (c r.toNat).toInt ≤ 7 ∧ ∀ i : Int, 1 ≤ i → i ≤ 7 → 0 ≤ (c (r + i).toNat).toInt ∧ (c (r + i).toNat).toInt ≤ 10
set_option maxRecDepth 100000 in
set_option maxHeartbeats 4000000 in
theorem k_heightAt2 (l : Launch) (D : va_G) (cI cR cM : ClassId) (sz : Nat) {jn mm : Nat} {q : Nat → Nat} {x0 x1 x2 x3 x4 x5 x6 x7 x8 x9 x10 x11 x12 x13 x14 x15 x16 x17 x18 x19 x20 : Int32} {f0 f1 f2 f3 f4 f5 f6 f7 f8 f9 f10 f11 f12 f13 f14 f15 f16 f17 f18 f19 f20 f21 f22 f23 f24 : Nat → Int32} {a b d e9 : Int32}  (hj : 1 ≤ jn ∧ jn ≤ 3) (hrow9 : IsRow jn f0 a.toInt) (hb0 : 0 ≤ b.toInt ∧ b.toInt < (f0 a.toInt.toNat).toInt) (hd0 : 0 ≤ d.toInt ∧ d.toInt ≤ 2) (he0 : 0 ≤ e9.toInt ∧ e9.toInt ≤ 1) : Met l yX11_heightAt wsX11_heightAt ({ frames := 0, cells := 0, slots := 0, locals := 0 }) (P0 D cI cR cM [.ref mm, .int a, .int b, .int d, .int e9] sz (mX mm q jn cI x0 x1 x2 x3 x4 x5 x6 x7 x8 x9 x10 x11 x12 x13 x14 x15 x16 x17 x18 x19 x20 f0 f1 f2 f3 f4 f5 f6 f7 f8 f9 f10 f11 f12 f13 f14 f15 f16 f17 f18 f19 f20 f21 f22 f23 f24)) (QP (fun r => (0 ≤ r.toInt ∧ r.toInt ≤ 9) ∧ (r.toInt = (f0 (a.toInt + 1 + 6 * b.toInt + 2 * d.toInt + e9.toInt).toNat).toInt / 4)) sz) 0 0 (va_A [] sz) := by
  refine go (cc := cX11_heightAt) (maxL := 5) (ret := (some .int)) (by decide) rfl (Nat.le_of_ble_eq_true rfl) ?_
  intro p e s m below meth c ls args Q hQ hsz hx hb hr hml hts hown hlocks hnm hP hK hD hl
  subst hsz
  have hS : va_S (va_A [] s.heap.size) s.heap s.heap [] := va_S.rf
  have hA : ∀ q, s.heap.size ≤ q → va_A [] s.heap.size q := fun q h => Or.inr h
  have hl : lv_has ls 5 [(0, .ref mm), (1, .int a), (2, .int b), (3, .int d), (4, .int e9)] := hl
  obtain ⟨hr1, hr2, hr3, hr4, hr5, hr6⟩ := hrow9
  refine lv_aload_n hx hb dX11_heightAt_0 rfl (lv_at hl 0 rfl) ?_
  refine va_get (D := D) (ci := 11) (v := .ref (q 0)) (C := RX11) (T := TX11) (N := 47) hx hb hts (by decide +kernel) hown hK.1 hP 0 rfl rfl 1 (by decide) (hts (.fieldLink RX11 8 "JugglingHallModel" "rows" "[I") (by decide +kernel)) (fun _ h9 => h9) rfl dX11_heightAt_1 ?_
  refine lv_iload_n hx hb dX11_heightAt_4 rfl (lv_at hl 1 rfl) ?_
  refine lv_iconst (v := 1) hx hb dX11_heightAt_5 (by decide) ?_
  refine a_iadd (u := a.toInt) (v := 1) hx hb dX11_heightAt_6 (rfl) (by decide) (by omega) (fun z_1 e_1 => ?_)
  refine lv_bipush (v := 6) hx hb dX11_heightAt_7 (by decide) ?_
  refine lv_iload_n hx hb dX11_heightAt_9 rfl (lv_at hl 2 rfl) ?_
  refine a_imul (u := 6) (v := b.toInt) hx hb dX11_heightAt_10 (by decide) (rfl) (by omega) (fun z_2 e_2 => ?_)
  refine a_iadd (u := (a.toInt + 1)) (v := (6 * b.toInt)) hx hb dX11_heightAt_11 (e_1) (e_2) (by omega) (fun z_3 e_3 => ?_)
  refine lv_iconst (v := 2) hx hb dX11_heightAt_12 (by decide) ?_
  refine lv_iload_n hx hb dX11_heightAt_13 rfl (lv_at hl 3 rfl) ?_
  refine a_imul (u := 2) (v := d.toInt) hx hb dX11_heightAt_14 (by decide) (rfl) (by omega) (fun z_4 e_4 => ?_)
  refine a_iadd (u := ((a.toInt + 1) + (6 * b.toInt))) (v := (2 * d.toInt)) hx hb dX11_heightAt_15 (e_3) (e_4) (by omega) (fun z_5 e_5 => ?_)
  refine lv_iload hx hb dX11_heightAt_16 (lv_at hl 4 rfl) ?_
  refine a_iadd (u := (((a.toInt + 1) + (6 * b.toInt)) + (2 * d.toInt))) (v := e9.toInt) hx hb dX11_heightAt_18 (e_5) (rfl) (by omega) (fun z_6 e_6 => ?_)
  refine a_iald (f := f0) (u := z_6.toInt) hx hb hK.1 hP 1 0 rfl rfl dX11_heightAt_19 (rfl) (by omega) (fun z_7 q_7 e_7 => ?_)
  have hcv : CellX jn z_7 := by rw [q_7]; exact hr6.1 _ (by omega) (by omega)
  obtain ⟨hv1, hv2, hv3, hv4⟩ := hcv
  have hvx : z_7.toInt = (f0 (a.toInt + 1 + 6 * b.toInt + 2 * d.toInt + e9.toInt).toNat).toInt := by rw [q_7, show z_6.toInt = a.toInt + 1 + 6 * b.toInt + 2 * d.toInt + e9.toInt by omega]
  refine lv_iconst (v := 4) hx hb dX11_heightAt_20 (by decide) ?_
  refine a_idiv (u := z_7.toInt) (v := 4) hx hb dX11_heightAt_21 (rfl) (by decide) (by omega) (fun z_8 e_8 => ?_)
  exact rp_iret hx hb hr hlocks hS (⟨show 0 ≤ z_8.toInt ∧ z_8.toInt ≤ 9 from (by first | assumption | omega), show z_8.toInt = (f0 (a.toInt + 1 + 6 * b.toInt + 2 * d.toInt + e9.toInt).toNat).toInt / 4 from (by first | assumption | omega)⟩) hQ dX11_heightAt_22
set_option maxRecDepth 100000 in
set_option maxHeartbeats 4000000 in
theorem k_toAt2 (l : Launch) (D : va_G) (cI cR cM : ClassId) (sz : Nat) {jn mm : Nat} {q : Nat → Nat} {x0 x1 x2 x3 x4 x5 x6 x7 x8 x9 x10 x11 x12 x13 x14 x15 x16 x17 x18 x19 x20 : Int32} {f0 f1 f2 f3 f4 f5 f6 f7 f8 f9 f10 f11 f12 f13 f14 f15 f16 f17 f18 f19 f20 f21 f22 f23 f24 : Nat → Int32} {a b d e9 : Int32}  (hj : 1 ≤ jn ∧ jn ≤ 3) (hrow9 : IsRow jn f0 a.toInt) (hb0 : 0 ≤ b.toInt ∧ b.toInt < (f0 a.toInt.toNat).toInt) (hd0 : 0 ≤ d.toInt ∧ d.toInt ≤ 2) (he0 : 0 ≤ e9.toInt ∧ e9.toInt ≤ 1) : Met l yX11_toAt wsX11_toAt ({ frames := 0, cells := 0, slots := 0, locals := 0 }) (P0 D cI cR cM [.ref mm, .int a, .int b, .int d, .int e9] sz (mX mm q jn cI x0 x1 x2 x3 x4 x5 x6 x7 x8 x9 x10 x11 x12 x13 x14 x15 x16 x17 x18 x19 x20 f0 f1 f2 f3 f4 f5 f6 f7 f8 f9 f10 f11 f12 f13 f14 f15 f16 f17 f18 f19 f20 f21 f22 f23 f24)) (QP (fun r => (0 ≤ r.toInt ∧ r.toInt < (jn : Int)) ∧ (r.toInt = (f0 (a.toInt + 1 + 6 * b.toInt + 2 * d.toInt + e9.toInt).toNat).toInt % 4)) sz) 0 0 (va_A [] sz) := by
  refine go (cc := cX11_toAt) (maxL := 5) (ret := (some .int)) (by decide) rfl (Nat.le_of_ble_eq_true rfl) ?_
  intro p e s m below meth c ls args Q hQ hsz hx hb hr hml hts hown hlocks hnm hP hK hD hl
  subst hsz
  have hS : va_S (va_A [] s.heap.size) s.heap s.heap [] := va_S.rf
  have hA : ∀ q, s.heap.size ≤ q → va_A [] s.heap.size q := fun q h => Or.inr h
  have hl : lv_has ls 5 [(0, .ref mm), (1, .int a), (2, .int b), (3, .int d), (4, .int e9)] := hl
  obtain ⟨hr1, hr2, hr3, hr4, hr5, hr6⟩ := hrow9
  refine lv_aload_n hx hb dX11_toAt_0 rfl (lv_at hl 0 rfl) ?_
  refine va_get (D := D) (ci := 11) (v := .ref (q 0)) (C := RX11) (T := TX11) (N := 47) hx hb hts (by decide +kernel) hown hK.1 hP 0 rfl rfl 1 (by decide) (hts (.fieldLink RX11 8 "JugglingHallModel" "rows" "[I") (by decide +kernel)) (fun _ h9 => h9) rfl dX11_toAt_1 ?_
  refine lv_iload_n hx hb dX11_toAt_4 rfl (lv_at hl 1 rfl) ?_
  refine lv_iconst (v := 1) hx hb dX11_toAt_5 (by decide) ?_
  refine a_iadd (u := a.toInt) (v := 1) hx hb dX11_toAt_6 (rfl) (by decide) (by omega) (fun z_1 e_1 => ?_)
  refine lv_bipush (v := 6) hx hb dX11_toAt_7 (by decide) ?_
  refine lv_iload_n hx hb dX11_toAt_9 rfl (lv_at hl 2 rfl) ?_
  refine a_imul (u := 6) (v := b.toInt) hx hb dX11_toAt_10 (by decide) (rfl) (by omega) (fun z_2 e_2 => ?_)
  refine a_iadd (u := (a.toInt + 1)) (v := (6 * b.toInt)) hx hb dX11_toAt_11 (e_1) (e_2) (by omega) (fun z_3 e_3 => ?_)
  refine lv_iconst (v := 2) hx hb dX11_toAt_12 (by decide) ?_
  refine lv_iload_n hx hb dX11_toAt_13 rfl (lv_at hl 3 rfl) ?_
  refine a_imul (u := 2) (v := d.toInt) hx hb dX11_toAt_14 (by decide) (rfl) (by omega) (fun z_4 e_4 => ?_)
  refine a_iadd (u := ((a.toInt + 1) + (6 * b.toInt))) (v := (2 * d.toInt)) hx hb dX11_toAt_15 (e_3) (e_4) (by omega) (fun z_5 e_5 => ?_)
  refine lv_iload hx hb dX11_toAt_16 (lv_at hl 4 rfl) ?_
  refine a_iadd (u := (((a.toInt + 1) + (6 * b.toInt)) + (2 * d.toInt))) (v := e9.toInt) hx hb dX11_toAt_18 (e_5) (rfl) (by omega) (fun z_6 e_6 => ?_)
  refine a_iald (f := f0) (u := z_6.toInt) hx hb hK.1 hP 1 0 rfl rfl dX11_toAt_19 (rfl) (by omega) (fun z_7 q_7 e_7 => ?_)
  have hcv : CellX jn z_7 := by rw [q_7]; exact hr6.1 _ (by omega) (by omega)
  obtain ⟨hv1, hv2, hv3, hv4⟩ := hcv
  have hvx : z_7.toInt = (f0 (a.toInt + 1 + 6 * b.toInt + 2 * d.toInt + e9.toInt).toNat).toInt := by rw [q_7, show z_6.toInt = a.toInt + 1 + 6 * b.toInt + 2 * d.toInt + e9.toInt by omega]
  refine lv_iconst (v := 4) hx hb dX11_toAt_20 (by decide) ?_
  refine a_irem (u := z_7.toInt) (v := 4) hx hb dX11_toAt_21 (rfl) (by decide) (by omega) (fun z_8 e_8 h_8 k_8 => ?_)
  exact rp_iret hx hb hr hlocks hS (⟨show 0 ≤ z_8.toInt ∧ z_8.toInt < (jn : Int) from (by first | assumption | omega), show z_8.toInt = (f0 (a.toInt + 1 + 6 * b.toInt + 2 * d.toInt + e9.toInt).toNat).toInt % 4 from (by first | assumption | omega)⟩) hQ dX11_toAt_22
set_option maxRecDepth 100000 in
set_option maxHeartbeats 4000000 in
theorem k_four (l : Launch) (D : va_G) (cI cR cM : ClassId) (sz : Nat) {jn mm : Nat} {q : Nat → Nat} {x0 x1 x2 x3 x4 x5 x6 x7 x8 x9 x10 x11 x12 x13 x14 x15 x16 x17 x18 x19 x20 : Int32} {f0 f1 f2 f3 f4 f5 f6 f7 f8 f9 f10 f11 f12 f13 f14 f15 f16 f17 f18 f19 f20 f21 f22 f23 f24 : Nat → Int32} {a : Int32}  (h2 : 0 ≤ x2.toInt ∧ x2.toInt ≤ 296) : Met l yX11_four wsX11_four ({ frames := 0, cells := 0, slots := 0, locals := 0 }) (P0 D cI cR cM [.ref mm, .int a] sz (mX mm q jn cI x0 x1 x2 x3 x4 x5 x6 x7 x8 x9 x10 x11 x12 x13 x14 x15 x16 x17 x18 x19 x20 f0 f1 f2 f3 f4 f5 f6 f7 f8 f9 f10 f11 f12 f13 f14 f15 f16 f17 f18 f19 f20 f21 f22 f23 f24)) (QG (S := Int32 × (Nat → Int32)) (fun u => none) (fun u => mX mm q jn cI x0 x1 (u.1) x3 x4 x5 x6 x7 x8 x9 x10 x11 x12 x13 x14 x15 x16 x17 x18 x19 x20 f0 f1 (u.2) f3 f4 f5 f6 f7 f8 f9 f10 f11 f12 f13 f14 f15 f16 f17 f18 f19 f20 f21 f22 f23 f24) (fun u => (u.1.toInt = x2.toInt + 4)) D (va_A (mX mm q jn cI x0 x1 x2 x3 x4 x5 x6 x7 x8 x9 x10 x11 x12 x13 x14 x15 x16 x17 x18 x19 x20 f0 f1 f2 f3 f4 f5 f6 f7 f8 f9 f10 f11 f12 f13 f14 f15 f16 f17 f18 f19 f20 f21 f22 f23 f24) sz)) 0 0 (va_A (mX mm q jn cI x0 x1 x2 x3 x4 x5 x6 x7 x8 x9 x10 x11 x12 x13 x14 x15 x16 x17 x18 x19 x20 f0 f1 f2 f3 f4 f5 f6 f7 f8 f9 f10 f11 f12 f13 f14 f15 f16 f17 f18 f19 f20 f21 f22 f23 f24) sz) := by
  refine go (cc := cX11_four) (maxL := 3) (ret := none) (by decide) rfl (Nat.le_of_ble_eq_true rfl) ?_
  intro p e s m below meth c ls args Q hQ hsz hx hb hr hml hts hown hlocks hnm hP hK hD hl
  subst hsz
  have hD := hD.self (sz := s.heap.size)
  generalize hAe : va_A (mX mm q jn cI x0 x1 x2 x3 x4 x5 x6 x7 x8 x9 x10 x11 x12 x13 x14 x15 x16 x17 x18 x19 x20 f0 f1 f2 f3 f4 f5 f6 f7 f8 f9 f10 f11 f12 f13 f14 f15 f16 f17 f18 f19 f20 f21 f22 f23 f24) s.heap.size = A at hD hQ
  have hA : ∀ q, s.heap.size ≤ q → A q := fun q h => by rw [← hAe]; exact Or.inr h
  have hS : va_S A s.heap s.heap [] := va_S.rf
  have hl : lv_has ls 3 [(0, .ref mm), (1, .int a)] := hl
  refine lv_bipush (v := 24) hx hb dX11_four_0 (by decide) ?_
  refine lv_istore_n (lv' := [(2, .int 24), (0, .ref mm), (1, .int a)]) hx hb dX11_four_2 rfl hl (by decide) rfl (fun ls hl => ?_)
  have loop3 : ∀ (ddloop3 : Nat) (k : Int32) (a2 : Int32) (ga : (Nat → Int32)) (H : Heap) (locs : List Loc) (ls : Array Slot), (k.toInt + 9).toNat < ddloop3 → (-8 ≤ k.toInt ∧ k.toInt ≤ 24) → (k.toInt + 8 * (a2.toInt - x2.toInt) = 24) → va_P D vwCl (mX mm q jn cI x0 x1 a2 x3 x4 x5 x6 x7 x8 x9 x10 x11 x12 x13 x14 x15 x16 x17 x18 x19 x20 f0 f1 ga f3 f4 f5 f6 f7 f8 f9 f10 f11 f12 f13 f14 f15 f16 f17 f18 f19 f20 f21 f22 f23 f24) H → va_D A (mX mm q jn cI x0 x1 a2 x3 x4 x5 x6 x7 x8 x9 x10 x11 x12 x13 x14 x15 x16 x17 x18 x19 x20 f0 f1 ga f3 f4 f5 f6 f7 f8 f9 f10 f11 f12 f13 f14 f15 f16 f17 f18 f19 f20 f21 f22 f23 f24) → va_S A s.heap H locs → lv_has ls 3 [(0, .ref mm), (1, .int a), (2, .int k)] → W p l e ({ frames := 0, cells := 0, slots := 0, locals := 0 }) s m args below meth c H locs 0 0 Q (F0 m 3 ls []) := by
    intro ddloop3
    induction ddloop3 with
    | zero =>
      intro k a2 ga H locs ls hdd
      exact absurd hdd (Nat.not_lt_zero _)
    | succ ddloop3 ih3 =>
      intro k a2 ga H locs ls hdd hk hk2 hP hD hS hl
      refine lv_iload_n hx hb dX11_four_3 rfl (lv_at hl 2 rfl) ?_
      refine a_if_lt (u := k.toInt) (tgt := 39) hx hb dX11_four_4 (by decide) (rfl) (fun c_1 => ?_) (fun c_1 => ?_)
      · exact g_vret (a2, ga) hx hb hr hlocks hS rfl (show a2.toInt = x2.toInt + 4 from (by first | assumption | omega)) hP hD hQ (Nat.le_of_ble_eq_true rfl) (Nat.le_of_ble_eq_true rfl) dX11_four_39
      · refine lv_aload_n hx hb dX11_four_7 rfl (lv_at hl 0 rfl) ?_
        refine va_get (D := D) (ci := 11) (v := .ref (q 2)) (C := RX11) (T := TX11) (N := 47) hx hb hts (by decide +kernel) hown hK.1 hP 0 rfl rfl 5 (by decide) (hts (.fieldLink RX11 17 "JugglingHallModel" "tape" "[I") (by decide +kernel)) (fun _ h9 => h9) rfl dX11_four_8 ?_
        refine lv_aload_n hx hb dX11_four_11 rfl (lv_at hl 0 rfl) ?_
        refine va_get (D := D) (ci := 11) (v := .int a2) (C := RX11) (T := TX11) (N := 47) hx hb hts (by decide +kernel) hown hK.1 hP 0 rfl rfl 6 (by decide) (hts (.fieldLink RX11 110 "JugglingHallModel" "taped" "I") (by decide +kernel)) (fun _ h9 => h9) rfl dX11_four_12 ?_
        refine lv_iload_n hx hb dX11_four_15 rfl (lv_at hl 1 rfl) ?_
        refine lv_iload_n hx hb dX11_four_16 rfl (lv_at hl 2 rfl) ?_
        refine lv_ishr hx hb dX11_four_17 ?_
        refine lv_topi (fun z_2 q_2 => ?_)
        refine lv_sipush (v := 255) hx hb dX11_four_18 (by decide) ?_
        refine lv_iand hx hb dX11_four_21 ?_
        refine lv_topi (fun z_3 q_3 => ?_)
        refine ma_2 (u := a2.toInt) hx hb hK hP hD hS dX11_four_22 (rfl) (by omega) (fun g_4 H locs eg_4 hP hD hS => ?_)
        refine lv_aload_n hx hb dX11_four_23 rfl (lv_at hl 0 rfl) ?_
        refine lv_dup hx hb dX11_four_24 rfl ?_
        refine va_get (D := D) (ci := 11) (v := .int a2) (C := RX11) (T := TX11) (N := 47) hx hb hts (by decide +kernel) hown hK.1 hP 0 rfl rfl 6 (by decide) (hts (.fieldLink RX11 110 "JugglingHallModel" "taped" "I") (by decide +kernel)) (fun _ h9 => h9) rfl dX11_four_25 ?_
        refine lv_iconst (v := 1) hx hb dX11_four_28 (by decide) ?_
        refine a_iadd (u := a2.toInt) (v := 1) hx hb dX11_four_29 (rfl) (by decide) (by omega) (fun z_5 e_5 => ?_)
        refine mp_2 hx hb hts (by decide +kernel) hown hK hP hD hS (hts (.fieldLink RX11 110 "JugglingHallModel" "taped" "I") (by decide +kernel)) dX11_four_30 (fun H locs hP hD hS => ?_)
        obtain ⟨z_6, q_6, e_6⟩ := i_inc (a := k.toInt) (-8) (rfl) (by decide) (by omega) (by omega)
        refine lv_iinc (v := z_6) (lv' := [(2, .int z_6), (0, .ref mm), (1, .int a)]) hx hb dX11_four_33 hl (k := 2) rfl q_6 (by decide) rfl (fun ls hl => ?_)
        refine lv_goto (tgt := 3) hx hb dX11_four_36 (by decide) ?_
        exact ih3 z_6 z_5 g_4 _ _ _ (by omega) (by first | assumption | omega) (by first | assumption | omega) hP hD hS (lv_sub hl [1, 2, 0] rfl)
  have hz_7 : (24 : Int32).toInt = 24 := by decide
  exact loop3 (((24 : Int32).toInt + 9).toNat + 1) (24 : Int32) x2 f2 _ _ _ (by omega) (by first | assumption | omega) (by first | assumption | omega) hP hD hS (lv_sub hl [1, 2, 0] rfl)
set_option maxRecDepth 100000 in
set_option maxHeartbeats 4000000 in
theorem k_feed (l : Launch) (D : va_G) (cI cR cM : ClassId) (sz : Nat) {jn mm : Nat} {q : Nat → Nat} {x0 x1 x2 x3 x4 x5 x6 x7 x8 x9 x10 x11 x12 x13 x14 x15 x16 x17 x18 x19 x20 : Int32} {f0 f1 f2 f3 f4 f5 f6 f7 f8 f9 f10 f11 f12 f13 f14 f15 f16 f17 f18 f19 f20 f21 f22 f23 f24 : Nat → Int32} {a b d e9 g9 : Int32}  (h2 : 0 ≤ x2.toInt ∧ x2.toInt ≤ 300) : Met l yX11_feed wsX11_feed ({ frames := 1, cells := 0, slots := 0, locals := 22 }) (P0 D cI cR cM [.ref mm, .int a, .int b, .int d, .int e9, .int g9] sz (mX mm q jn cI x0 x1 x2 x3 x4 x5 x6 x7 x8 x9 x10 x11 x12 x13 x14 x15 x16 x17 x18 x19 x20 f0 f1 f2 f3 f4 f5 f6 f7 f8 f9 f10 f11 f12 f13 f14 f15 f16 f17 f18 f19 f20 f21 f22 f23 f24)) (QG (S := Int32 × Int32 × (Nat → Int32)) (fun u => some (.int u.1)) (fun u => mX mm q jn cI x0 x1 (u.2.1) x3 x4 x5 x6 x7 x8 x9 x10 x11 x12 x13 x14 x15 x16 x17 x18 x19 x20 f0 f1 (u.2.2) f3 f4 f5 f6 f7 f8 f9 f10 f11 f12 f13 f14 f15 f16 f17 f18 f19 f20 f21 f22 f23 f24) (fun u => (0 ≤ u.2.1.toInt ∧ u.2.1.toInt ≤ 300)) D (va_A (mX mm q jn cI x0 x1 x2 x3 x4 x5 x6 x7 x8 x9 x10 x11 x12 x13 x14 x15 x16 x17 x18 x19 x20 f0 f1 f2 f3 f4 f5 f6 f7 f8 f9 f10 f11 f12 f13 f14 f15 f16 f17 f18 f19 f20 f21 f22 f23 f24) sz)) 0 0 (va_A (mX mm q jn cI x0 x1 x2 x3 x4 x5 x6 x7 x8 x9 x10 x11 x12 x13 x14 x15 x16 x17 x18 x19 x20 f0 f1 f2 f3 f4 f5 f6 f7 f8 f9 f10 f11 f12 f13 f14 f15 f16 f17 f18 f19 f20 f21 f22 f23 f24) sz) := by
  refine go (cc := cX11_feed) (maxL := 6) (ret := (some .int)) (by decide) rfl (Nat.le_of_ble_eq_true rfl) ?_
  intro p e s m below meth c ls args Q hQ hsz hx hb hr hml hts hown hlocks hnm hP hK hD hl
  subst hsz
  have hD := hD.self (sz := s.heap.size)
  generalize hAe : va_A (mX mm q jn cI x0 x1 x2 x3 x4 x5 x6 x7 x8 x9 x10 x11 x12 x13 x14 x15 x16 x17 x18 x19 x20 f0 f1 f2 f3 f4 f5 f6 f7 f8 f9 f10 f11 f12 f13 f14 f15 f16 f17 f18 f19 f20 f21 f22 f23 f24) s.heap.size = A at hD hQ
  have hA : ∀ q, s.heap.size ≤ q → A q := fun q h => by rw [← hAe]; exact Or.inr h
  have hS : va_S A s.heap s.heap [] := va_S.rf
  have hl : lv_has ls 6 [(0, .ref mm), (1, .int a), (2, .int b), (3, .int d), (4, .int e9), (5, .int g9)] := hl
  refine lv_aload_n hx hb dX11_feed_0 rfl (lv_at hl 0 rfl) ?_
  refine va_get (D := D) (ci := 11) (v := .int x2) (C := RX11) (T := TX11) (N := 47) hx hb hts (by decide +kernel) hown hK.1 hP 0 rfl rfl 6 (by decide) (hts (.fieldLink RX11 110 "JugglingHallModel" "taped" "I") (by decide +kernel)) (fun _ h9 => h9) rfl dX11_feed_1 ?_
  refine lv_bipush (v := 20) hx hb dX11_feed_4 (by decide) ?_
  refine a_iadd (u := x2.toInt) (v := 20) hx hb dX11_feed_6 (rfl) (by decide) (by omega) (fun z_1 e_1 => ?_)
  refine lv_sipush (v := 300) hx hb dX11_feed_7 (by decide) ?_
  refine a_icmp_le (u := (x2.toInt + 20)) (v := 300) (tgt := 15) hx hb dX11_feed_10 (by decide) (e_1) (by decide) (fun c_2 => ?_) (fun c_2 => ?_)
  · refine lv_aload_n hx hb dX11_feed_15 rfl (lv_at hl 0 rfl) ?_
    refine lv_iload_n hx hb dX11_feed_16 rfl (lv_at hl 1 rfl) ?_
    refine call_g (wr := []) (va_runV (As := [.int a]) (rest := []) ⟨hx, hb, hml, hown, hts⟩ (k_four l D cI cR cM _  (by first | assumption | omega)) (cwV 1 hts gX11_feed_X11_four rfl rfl rfl (by decide +kernel) ⟨Nat.le_of_ble_eq_true rfl, Nat.le_of_ble_eq_true rfl⟩) (pre_V hK hP hD 0 11 rfl rfl) rfl rfl hl.1 rfl (lv_room (Nat.le_of_ble_eq_true rfl)) dX11_feed_17 ⟨Nat.le_of_ble_eq_true rfl, Nat.le_of_ble_eq_true rfl⟩) hP hD hS hA [0, 1, 2, 3, 4, 5, 6, 7, 8, 9, 10, 11, 12, 13, 14, 15, 16, 17, 18, 19, 20, 21, 22, 23, 24, 25] [] (by with_unfolding_all rfl) rfl (by decide) (by decide) (fun u_3 H locs hw hP hD hS => ?_)
    obtain ⟨y2_3, g2_3⟩ := u_3
    have hP : va_P D vwCl (mX mm q jn cI x0 x1 y2_3 x3 x4 x5 x6 x7 x8 x9 x10 x11 x12 x13 x14 x15 x16 x17 x18 x19 x20 f0 f1 g2_3 f3 f4 f5 f6 f7 f8 f9 f10 f11 f12 f13 f14 f15 f16 f17 f18 f19 f20 f21 f22 f23 f24) H := hP
    have hD : va_D A (mX mm q jn cI x0 x1 y2_3 x3 x4 x5 x6 x7 x8 x9 x10 x11 x12 x13 x14 x15 x16 x17 x18 x19 x20 f0 f1 g2_3 f3 f4 f5 f6 f7 f8 f9 f10 f11 f12 f13 f14 f15 f16 f17 f18 f19 f20 f21 f22 f23 f24) := hD
    have h_3 : (y2_3.toInt = x2.toInt + 4) := hw
    refine lv_aload_n hx hb dX11_feed_20 rfl (lv_at hl 0 rfl) ?_
    refine lv_iload_n hx hb dX11_feed_21 rfl (lv_at hl 2 rfl) ?_
    refine call_g (wr := []) (va_runV (As := [.int b]) (rest := []) ⟨hx, hb, hml, hown, hts⟩ (k_four l D cI cR cM _  (by first | assumption | omega)) (cwV 1 hts gX11_feed_X11_four rfl rfl rfl (by decide +kernel) ⟨Nat.le_of_ble_eq_true rfl, Nat.le_of_ble_eq_true rfl⟩) (pre_V hK hP hD 0 11 rfl rfl) rfl rfl hl.1 rfl (lv_room (Nat.le_of_ble_eq_true rfl)) dX11_feed_22 ⟨Nat.le_of_ble_eq_true rfl, Nat.le_of_ble_eq_true rfl⟩) hP hD hS hA [0, 1, 2, 3, 4, 5, 6, 7, 8, 9, 10, 11, 12, 13, 14, 15, 16, 17, 18, 19, 20, 21, 22, 23, 24, 25] [] (by with_unfolding_all rfl) rfl (by decide) (by decide) (fun u_4 H locs hw hP hD hS => ?_)
    obtain ⟨y2_4, g2_4⟩ := u_4
    have hP : va_P D vwCl (mX mm q jn cI x0 x1 y2_4 x3 x4 x5 x6 x7 x8 x9 x10 x11 x12 x13 x14 x15 x16 x17 x18 x19 x20 f0 f1 g2_4 f3 f4 f5 f6 f7 f8 f9 f10 f11 f12 f13 f14 f15 f16 f17 f18 f19 f20 f21 f22 f23 f24) H := hP
    have hD : va_D A (mX mm q jn cI x0 x1 y2_4 x3 x4 x5 x6 x7 x8 x9 x10 x11 x12 x13 x14 x15 x16 x17 x18 x19 x20 f0 f1 g2_4 f3 f4 f5 f6 f7 f8 f9 f10 f11 f12 f13 f14 f15 f16 f17 f18 f19 f20 f21 f22 f23 f24) := hD
    have h_4 : (y2_4.toInt = y2_3.toInt + 4) := hw
    refine lv_aload_n hx hb dX11_feed_25 rfl (lv_at hl 0 rfl) ?_
    refine lv_iload_n hx hb dX11_feed_26 rfl (lv_at hl 3 rfl) ?_
    refine call_g (wr := []) (va_runV (As := [.int d]) (rest := []) ⟨hx, hb, hml, hown, hts⟩ (k_four l D cI cR cM _  (by first | assumption | omega)) (cwV 1 hts gX11_feed_X11_four rfl rfl rfl (by decide +kernel) ⟨Nat.le_of_ble_eq_true rfl, Nat.le_of_ble_eq_true rfl⟩) (pre_V hK hP hD 0 11 rfl rfl) rfl rfl hl.1 rfl (lv_room (Nat.le_of_ble_eq_true rfl)) dX11_feed_27 ⟨Nat.le_of_ble_eq_true rfl, Nat.le_of_ble_eq_true rfl⟩) hP hD hS hA [0, 1, 2, 3, 4, 5, 6, 7, 8, 9, 10, 11, 12, 13, 14, 15, 16, 17, 18, 19, 20, 21, 22, 23, 24, 25] [] (by with_unfolding_all rfl) rfl (by decide) (by decide) (fun u_5 H locs hw hP hD hS => ?_)
    obtain ⟨y2_5, g2_5⟩ := u_5
    have hP : va_P D vwCl (mX mm q jn cI x0 x1 y2_5 x3 x4 x5 x6 x7 x8 x9 x10 x11 x12 x13 x14 x15 x16 x17 x18 x19 x20 f0 f1 g2_5 f3 f4 f5 f6 f7 f8 f9 f10 f11 f12 f13 f14 f15 f16 f17 f18 f19 f20 f21 f22 f23 f24) H := hP
    have hD : va_D A (mX mm q jn cI x0 x1 y2_5 x3 x4 x5 x6 x7 x8 x9 x10 x11 x12 x13 x14 x15 x16 x17 x18 x19 x20 f0 f1 g2_5 f3 f4 f5 f6 f7 f8 f9 f10 f11 f12 f13 f14 f15 f16 f17 f18 f19 f20 f21 f22 f23 f24) := hD
    have h_5 : (y2_5.toInt = y2_4.toInt + 4) := hw
    refine lv_aload_n hx hb dX11_feed_30 rfl (lv_at hl 0 rfl) ?_
    refine lv_iload hx hb dX11_feed_31 (lv_at hl 4 rfl) ?_
    refine call_g (wr := []) (va_runV (As := [.int e9]) (rest := []) ⟨hx, hb, hml, hown, hts⟩ (k_four l D cI cR cM _  (by first | assumption | omega)) (cwV 1 hts gX11_feed_X11_four rfl rfl rfl (by decide +kernel) ⟨Nat.le_of_ble_eq_true rfl, Nat.le_of_ble_eq_true rfl⟩) (pre_V hK hP hD 0 11 rfl rfl) rfl rfl hl.1 rfl (lv_room (Nat.le_of_ble_eq_true rfl)) dX11_feed_33 ⟨Nat.le_of_ble_eq_true rfl, Nat.le_of_ble_eq_true rfl⟩) hP hD hS hA [0, 1, 2, 3, 4, 5, 6, 7, 8, 9, 10, 11, 12, 13, 14, 15, 16, 17, 18, 19, 20, 21, 22, 23, 24, 25] [] (by with_unfolding_all rfl) rfl (by decide) (by decide) (fun u_6 H locs hw hP hD hS => ?_)
    obtain ⟨y2_6, g2_6⟩ := u_6
    have hP : va_P D vwCl (mX mm q jn cI x0 x1 y2_6 x3 x4 x5 x6 x7 x8 x9 x10 x11 x12 x13 x14 x15 x16 x17 x18 x19 x20 f0 f1 g2_6 f3 f4 f5 f6 f7 f8 f9 f10 f11 f12 f13 f14 f15 f16 f17 f18 f19 f20 f21 f22 f23 f24) H := hP
    have hD : va_D A (mX mm q jn cI x0 x1 y2_6 x3 x4 x5 x6 x7 x8 x9 x10 x11 x12 x13 x14 x15 x16 x17 x18 x19 x20 f0 f1 g2_6 f3 f4 f5 f6 f7 f8 f9 f10 f11 f12 f13 f14 f15 f16 f17 f18 f19 f20 f21 f22 f23 f24) := hD
    have h_6 : (y2_6.toInt = y2_5.toInt + 4) := hw
    refine lv_aload_n hx hb dX11_feed_36 rfl (lv_at hl 0 rfl) ?_
    refine lv_iload hx hb dX11_feed_37 (lv_at hl 5 rfl) ?_
    refine call_g (wr := []) (va_runV (As := [.int g9]) (rest := []) ⟨hx, hb, hml, hown, hts⟩ (k_four l D cI cR cM _  (by first | assumption | omega)) (cwV 1 hts gX11_feed_X11_four rfl rfl rfl (by decide +kernel) ⟨Nat.le_of_ble_eq_true rfl, Nat.le_of_ble_eq_true rfl⟩) (pre_V hK hP hD 0 11 rfl rfl) rfl rfl hl.1 rfl (lv_room (Nat.le_of_ble_eq_true rfl)) dX11_feed_39 ⟨Nat.le_of_ble_eq_true rfl, Nat.le_of_ble_eq_true rfl⟩) hP hD hS hA [0, 1, 2, 3, 4, 5, 6, 7, 8, 9, 10, 11, 12, 13, 14, 15, 16, 17, 18, 19, 20, 21, 22, 23, 24, 25] [] (by with_unfolding_all rfl) rfl (by decide) (by decide) (fun u_7 H locs hw hP hD hS => ?_)
    obtain ⟨y2_7, g2_7⟩ := u_7
    have hP : va_P D vwCl (mX mm q jn cI x0 x1 y2_7 x3 x4 x5 x6 x7 x8 x9 x10 x11 x12 x13 x14 x15 x16 x17 x18 x19 x20 f0 f1 g2_7 f3 f4 f5 f6 f7 f8 f9 f10 f11 f12 f13 f14 f15 f16 f17 f18 f19 f20 f21 f22 f23 f24) H := hP
    have hD : va_D A (mX mm q jn cI x0 x1 y2_7 x3 x4 x5 x6 x7 x8 x9 x10 x11 x12 x13 x14 x15 x16 x17 x18 x19 x20 f0 f1 g2_7 f3 f4 f5 f6 f7 f8 f9 f10 f11 f12 f13 f14 f15 f16 f17 f18 f19 f20 f21 f22 f23 f24) := hD
    have h_7 : (y2_7.toInt = y2_6.toInt + 4) := hw
    refine lv_aload_n hx hb dX11_feed_42 rfl (lv_at hl 0 rfl) ?_
    refine va_get (D := D) (ci := 11) (v := .int y2_7) (C := RX11) (T := TX11) (N := 47) hx hb hts (by decide +kernel) hown hK.1 hP 0 rfl rfl 6 (by decide) (hts (.fieldLink RX11 110 "JugglingHallModel" "taped" "I") (by decide +kernel)) (fun _ h9 => h9) rfl dX11_feed_43 ?_
    exact g_iret (y2_7, y2_7, g2_7) hx hb hr hlocks hS rfl (show 0 ≤ y2_7.toInt ∧ y2_7.toInt ≤ 300 from (by first | assumption | omega)) hP hD hQ (Nat.le_of_ble_eq_true rfl) (Nat.le_of_ble_eq_true rfl) dX11_feed_46
  · refine lv_iconst (v := (-1)) hx hb dX11_feed_13 (by decide) ?_
    have hz_8 : (-1 : Int32).toInt = (-1) := by decide
    exact g_iret ((-1 : Int32), x2, f2) hx hb hr hlocks hS rfl (show 0 ≤ x2.toInt ∧ x2.toInt ≤ 300 from (by first | assumption | omega)) hP hD hQ (Nat.le_of_ble_eq_true rfl) (Nat.le_of_ble_eq_true rfl) dX11_feed_14
set_option maxRecDepth 100000 in
set_option maxHeartbeats 4000000 in
theorem k_end (l : Launch) (D : va_G) (cI cR cM : ClassId) (sz : Nat) {jn mm : Nat} {q : Nat → Nat} {x0 x1 x2 x3 x4 x5 x6 x7 x8 x9 x10 x11 x12 x13 x14 x15 x16 x17 x18 x19 x20 : Int32} {f0 f1 f2 f3 f4 f5 f6 f7 f8 f9 f10 f11 f12 f13 f14 f15 f16 f17 f18 f19 f20 f21 f22 f23 f24 : Nat → Int32} {a : Int32}  (h2 : 0 ≤ x2.toInt ∧ x2.toInt ≤ 300) : Met l yX11_end wsX11_end ({ frames := 1, cells := 0, slots := 0, locals := 22 }) (P0 D cI cR cM [.ref mm, .int a] sz (mX mm q jn cI x0 x1 x2 x3 x4 x5 x6 x7 x8 x9 x10 x11 x12 x13 x14 x15 x16 x17 x18 x19 x20 f0 f1 f2 f3 f4 f5 f6 f7 f8 f9 f10 f11 f12 f13 f14 f15 f16 f17 f18 f19 f20 f21 f22 f23 f24)) (QG (S := Int32 × Int32) (fun u => some (.int u.1)) (fun u => mX mm q jn cI x0 x1 (u.2) x3 x4 x5 x6 x7 x8 x9 x10 x11 x12 x13 x14 x15 x16 x17 x18 x19 x20 f0 f1 f2 f3 f4 f5 f6 f7 f8 f9 f10 f11 f12 f13 f14 f15 f16 f17 f18 f19 f20 f21 f22 f23 f24) (fun u => (0 ≤ u.2.toInt ∧ u.2.toInt ≤ 300)) D (va_A (mX mm q jn cI x0 x1 x2 x3 x4 x5 x6 x7 x8 x9 x10 x11 x12 x13 x14 x15 x16 x17 x18 x19 x20 f0 f1 f2 f3 f4 f5 f6 f7 f8 f9 f10 f11 f12 f13 f14 f15 f16 f17 f18 f19 f20 f21 f22 f23 f24) sz)) 0 0 (va_A (mX mm q jn cI x0 x1 x2 x3 x4 x5 x6 x7 x8 x9 x10 x11 x12 x13 x14 x15 x16 x17 x18 x19 x20 f0 f1 f2 f3 f4 f5 f6 f7 f8 f9 f10 f11 f12 f13 f14 f15 f16 f17 f18 f19 f20 f21 f22 f23 f24) sz) := by
  refine go (cc := cX11_end) (maxL := 2) (ret := (some .int)) (by decide) rfl (Nat.le_of_ble_eq_true rfl) ?_
  intro p e s m below meth c ls args Q hQ hsz hx hb hr hml hts hown hlocks hnm hP hK hD hl
  subst hsz
  have hD := hD.self (sz := s.heap.size)
  generalize hAe : va_A (mX mm q jn cI x0 x1 x2 x3 x4 x5 x6 x7 x8 x9 x10 x11 x12 x13 x14 x15 x16 x17 x18 x19 x20 f0 f1 f2 f3 f4 f5 f6 f7 f8 f9 f10 f11 f12 f13 f14 f15 f16 f17 f18 f19 f20 f21 f22 f23 f24) s.heap.size = A at hD hQ
  have hA : ∀ q, s.heap.size ≤ q → A q := fun q h => by rw [← hAe]; exact Or.inr h
  have hS : va_S A s.heap s.heap [] := va_S.rf
  have hl : lv_has ls 2 [(0, .ref mm), (1, .int a)] := hl
  refine lv_iload_n hx hb dX11_end_0 rfl (lv_at hl 1 rfl) ?_
  refine lv_iconst (v := 0) hx hb dX11_end_1 (by decide) ?_
  refine lv_aload_n hx hb dX11_end_2 rfl (lv_at hl 0 rfl) ?_
  refine va_get (D := D) (ci := 11) (v := .int x2) (C := RX11) (T := TX11) (N := 47) hx hb hts (by decide +kernel) hown hK.1 hP 0 rfl rfl 6 (by decide) (hts (.fieldLink RX11 110 "JugglingHallModel" "taped" "I") (by decide +kernel)) (fun _ h9 => h9) rfl dX11_end_3 ?_
  have hz_1 : (0 : Int32).toInt = 0 := by decide
  refine roP (va_runS (As := [.int a, .int 0, .int x2]) (rest := []) ⟨hx, hb, hml, hown, hts⟩ (k_isIn l D cI cR cM _  ) (va_cwS 3 hts gX11_end_X11_isIn rfl rfl rfl (by decide +kernel) ⟨Nat.le_of_ble_eq_true rfl, Nat.le_of_ble_eq_true rfl⟩) (pre_S hK va_P_nil (va_D_nil (A := fun _ => True))) rfl rfl hl.1 rfl (lv_room (Nat.le_of_ble_eq_true rfl)) dX11_end_6 ⟨Nat.le_of_ble_eq_true rfl, Nat.le_of_ble_eq_true rfl⟩) hS hA hP (fun r_2 H locs hw hP hS => ?_)
  have h_2 : ((r_2.toInt = 1 ∧ (0 : Int32).toInt ≤ a.toInt ∧ a.toInt ≤ x2.toInt) ∨ (r_2.toInt = 0 ∧ (a.toInt < (0 : Int32).toInt ∨ x2.toInt < a.toInt))) := hw
  refine a_if_ne (u := r_2.toInt) (tgt := 14) hx hb dX11_end_9 (by decide) (rfl) (fun c_3 => ?_) (fun c_3 => ?_)
  · refine lv_aload_n hx hb dX11_end_14 rfl (lv_at hl 0 rfl) ?_
    refine lv_iload_n hx hb dX11_end_15 rfl (lv_at hl 1 rfl) ?_
    refine mp_2 hx hb hts (by decide +kernel) hown hK hP hD hS (hts (.fieldLink RX11 110 "JugglingHallModel" "taped" "I") (by decide +kernel)) dX11_end_16 (fun H locs hP hD hS => ?_)
    refine lv_iload_n hx hb dX11_end_19 rfl (lv_at hl 1 rfl) ?_
    exact g_iret (a, a) hx hb hr hlocks hS rfl (show 0 ≤ a.toInt ∧ a.toInt ≤ 300 from (by first | assumption | omega)) hP hD hQ (Nat.le_of_ble_eq_true rfl) (Nat.le_of_ble_eq_true rfl) dX11_end_20
  · refine lv_iconst (v := (-1)) hx hb dX11_end_12 (by decide) ?_
    have hz_4 : (-1 : Int32).toInt = (-1) := by decide
    exact g_iret ((-1 : Int32), x2) hx hb hr hlocks hS rfl (show 0 ≤ x2.toInt ∧ x2.toInt ≤ 300 from (by first | assumption | omega)) hP hD hQ (Nat.le_of_ble_eq_true rfl) (Nat.le_of_ble_eq_true rfl) dX11_end_13
set_option maxRecDepth 100000 in
set_option maxHeartbeats 4000000 in
theorem k_fault (l : Launch) (D : va_G) (cI cR cM : ClassId) (sz : Nat) {jn mm : Nat} {q : Nat → Nat} {x0 x1 x2 x3 x4 x5 x6 x7 x8 x9 x10 x11 x12 x13 x14 x15 x16 x17 x18 x19 x20 : Int32} {f0 f1 f2 f3 f4 f5 f6 f7 f8 f9 f10 f11 f12 f13 f14 f15 f16 f17 f18 f19 f20 f21 f22 f23 f24 : Nat → Int32} {a : Int32}   : Met l yX11_fault wsX11_fault ({ frames := 0, cells := 0, slots := 0, locals := 0 }) (P0 D cI cR cM [.ref mm, .int a] sz (mX mm q jn cI x0 x1 x2 x3 x4 x5 x6 x7 x8 x9 x10 x11 x12 x13 x14 x15 x16 x17 x18 x19 x20 f0 f1 f2 f3 f4 f5 f6 f7 f8 f9 f10 f11 f12 f13 f14 f15 f16 f17 f18 f19 f20 f21 f22 f23 f24)) (QP (fun r => True) sz) 0 0 (va_A [] sz) := by
  refine go (cc := cX11_fault) (maxL := 2) (ret := (some .int)) (by decide) rfl (Nat.le_of_ble_eq_true rfl) ?_
  intro p e s m below meth c ls args Q hQ hsz hx hb hr hml hts hown hlocks hnm hP hK hD hl
  subst hsz
  have hS : va_S (va_A [] s.heap.size) s.heap s.heap [] := va_S.rf
  have hA : ∀ q, s.heap.size ≤ q → va_A [] s.heap.size q := fun q h => Or.inr h
  have hl : lv_has ls 2 [(0, .ref mm), (1, .int a)] := hl
  refine lv_iload_n hx hb dX11_fault_0 rfl (lv_at hl 1 rfl) ?_
  refine a_if_ne (u := a.toInt) (tgt := 11) hx hb dX11_fault_1 (by decide) (rfl) (fun c_1 => ?_) (fun c_1 => ?_)
  · refine lv_iload_n hx hb dX11_fault_11 rfl (lv_at hl 1 rfl) ?_
    refine lv_iconst (v := 1) hx hb dX11_fault_12 (by decide) ?_
    refine a_icmp_ne (u := a.toInt) (v := 1) (tgt := 23) hx hb dX11_fault_13 (by decide) (rfl) (by decide) (fun c_2 => ?_) (fun c_2 => ?_)
    · refine lv_iconst (v := (-1)) hx hb dX11_fault_23 (by decide) ?_
      have hz_3 : (-1 : Int32).toInt = (-1) := by decide
      exact rp_iret hx hb hr hlocks hS (trivial) hQ dX11_fault_24
    · refine lv_aload_n hx hb dX11_fault_16 rfl (lv_at hl 0 rfl) ?_
      refine va_get (D := D) (ci := 11) (v := .int x4) (C := RX11) (T := TX11) (N := 47) hx hb hts (by decide +kernel) hown hK.1 hP 0 rfl rfl 8 (by decide) (hts (.fieldLink RX11 24 "JugglingHallModel" "faultPlace" "I") (by decide +kernel)) (fun _ h9 => h9) rfl dX11_fault_17 ?_
      refine lv_goto (tgt := 24) hx hb dX11_fault_20 (by decide) ?_
      exact rp_iret hx hb hr hlocks hS (trivial) hQ dX11_fault_24
  · refine lv_aload_n hx hb dX11_fault_4 rfl (lv_at hl 0 rfl) ?_
    refine va_get (D := D) (ci := 11) (v := .int x3) (C := RX11) (T := TX11) (N := 47) hx hb hts (by decide +kernel) hown hK.1 hP 0 rfl rfl 7 (by decide) (hts (.fieldLink RX11 20 "JugglingHallModel" "fault" "I") (by decide +kernel)) (fun _ h9 => h9) rfl dX11_fault_5 ?_
    refine lv_goto (tgt := 24) hx hb dX11_fault_8 (by decide) ?_
    exact rp_iret hx hb hr hlocks hS (trivial) hQ dX11_fault_24
set_option maxRecDepth 100000 in
set_option maxHeartbeats 4000000 in
theorem k_look (l : Launch) (D : va_G) (cI cR cM : ClassId) (sz : Nat) {jn mm : Nat} {q : Nat → Nat} {x0 x1 x2 x3 x4 x5 x6 x7 x8 x9 x10 x11 x12 x13 x14 x15 x16 x17 x18 x19 x20 : Int32} {f0 f1 f2 f3 f4 f5 f6 f7 f8 f9 f10 f11 f12 f13 f14 f15 f16 f17 f18 f19 f20 f21 f22 f23 f24 : Nat → Int32} {a : Int32}  (h0 : 0 ≤ x0.toInt ∧ x0.toInt ≤ 60) (h1 : 0 ≤ x1.toInt ∧ x1.toInt ≤ x0.toInt) : Met l yX11_look wsX11_look ({ frames := 1, cells := 0, slots := 0, locals := 22 }) (P0 D cI cR cM [.ref mm, .int a] sz (mX mm q jn cI x0 x1 x2 x3 x4 x5 x6 x7 x8 x9 x10 x11 x12 x13 x14 x15 x16 x17 x18 x19 x20 f0 f1 f2 f3 f4 f5 f6 f7 f8 f9 f10 f11 f12 f13 f14 f15 f16 f17 f18 f19 f20 f21 f22 f23 f24)) (QG (S := Int32 × Int32) (fun u => some (.int u.1)) (fun u => mX mm q jn cI x0 (u.2) x2 x3 x4 x5 x6 x7 x8 x9 x10 x11 x12 x13 x14 x15 x16 x17 x18 x19 x20 f0 f1 f2 f3 f4 f5 f6 f7 f8 f9 f10 f11 f12 f13 f14 f15 f16 f17 f18 f19 f20 f21 f22 f23 f24) (fun u => (0 ≤ u.2.toInt ∧ u.2.toInt ≤ x0.toInt)) D (va_A (mX mm q jn cI x0 x1 x2 x3 x4 x5 x6 x7 x8 x9 x10 x11 x12 x13 x14 x15 x16 x17 x18 x19 x20 f0 f1 f2 f3 f4 f5 f6 f7 f8 f9 f10 f11 f12 f13 f14 f15 f16 f17 f18 f19 f20 f21 f22 f23 f24) sz)) 0 0 (va_A (mX mm q jn cI x0 x1 x2 x3 x4 x5 x6 x7 x8 x9 x10 x11 x12 x13 x14 x15 x16 x17 x18 x19 x20 f0 f1 f2 f3 f4 f5 f6 f7 f8 f9 f10 f11 f12 f13 f14 f15 f16 f17 f18 f19 f20 f21 f22 f23 f24) sz) := by
  refine go (cc := cX11_look) (maxL := 2) (ret := (some .boolean)) (by decide) rfl (Nat.le_of_ble_eq_true rfl) ?_
  intro p e s m below meth c ls args Q hQ hsz hx hb hr hml hts hown hlocks hnm hP hK hD hl
  subst hsz
  have hD := hD.self (sz := s.heap.size)
  generalize hAe : va_A (mX mm q jn cI x0 x1 x2 x3 x4 x5 x6 x7 x8 x9 x10 x11 x12 x13 x14 x15 x16 x17 x18 x19 x20 f0 f1 f2 f3 f4 f5 f6 f7 f8 f9 f10 f11 f12 f13 f14 f15 f16 f17 f18 f19 f20 f21 f22 f23 f24) s.heap.size = A at hD hQ
  have hA : ∀ q, s.heap.size ≤ q → A q := fun q h => by rw [← hAe]; exact Or.inr h
  have hS : va_S A s.heap s.heap [] := va_S.rf
  have hl : lv_has ls 2 [(0, .ref mm), (1, .int a)] := hl
  refine lv_iload_n hx hb dX11_look_0 rfl (lv_at hl 1 rfl) ?_
  refine lv_iconst (v := 0) hx hb dX11_look_1 (by decide) ?_
  refine lv_aload_n hx hb dX11_look_2 rfl (lv_at hl 0 rfl) ?_
  refine va_get (D := D) (ci := 11) (v := .int x0) (C := RX11) (T := TX11) (N := 47) hx hb hts (by decide +kernel) hown hK.1 hP 0 rfl rfl 3 (by decide) (hts (.fieldLink RX11 185 "JugglingHallModel" "time" "I") (by decide +kernel)) (fun _ h9 => h9) rfl dX11_look_3 ?_
  have hz_1 : (0 : Int32).toInt = 0 := by decide
  refine roP (va_runS (As := [.int a, .int 0, .int x0]) (rest := []) ⟨hx, hb, hml, hown, hts⟩ (k_isIn l D cI cR cM _  ) (va_cwS 3 hts gX11_look_X11_isIn rfl rfl rfl (by decide +kernel) ⟨Nat.le_of_ble_eq_true rfl, Nat.le_of_ble_eq_true rfl⟩) (pre_S hK va_P_nil (va_D_nil (A := fun _ => True))) rfl rfl hl.1 rfl (lv_room (Nat.le_of_ble_eq_true rfl)) dX11_look_6 ⟨Nat.le_of_ble_eq_true rfl, Nat.le_of_ble_eq_true rfl⟩) hS hA hP (fun r_2 H locs hw hP hS => ?_)
  have h_2 : ((r_2.toInt = 1 ∧ (0 : Int32).toInt ≤ a.toInt ∧ a.toInt ≤ x0.toInt) ∨ (r_2.toInt = 0 ∧ (a.toInt < (0 : Int32).toInt ∨ x0.toInt < a.toInt))) := hw
  refine a_if_ne (u := r_2.toInt) (tgt := 14) hx hb dX11_look_9 (by decide) (rfl) (fun c_3 => ?_) (fun c_3 => ?_)
  · refine lv_aload_n hx hb dX11_look_14 rfl (lv_at hl 0 rfl) ?_
    refine lv_iload_n hx hb dX11_look_15 rfl (lv_at hl 1 rfl) ?_
    refine mp_1 hx hb hts (by decide +kernel) hown hK hP hD hS (hts (.fieldLink RX11 104 "JugglingHallModel" "looked" "I") (by decide +kernel)) dX11_look_16 (fun H locs hP hD hS => ?_)
    refine lv_iconst (v := 1) hx hb dX11_look_19 (by decide) ?_
    have hz_4 : (1 : Int32).toInt = 1 := by decide
    exact g_zret ((1 : Int32), a) hx hb hr hlocks hS (by first | exact Or.inl rfl | exact Or.inr rfl) rfl (show 0 ≤ a.toInt ∧ a.toInt ≤ x0.toInt from (by first | assumption | omega)) hP hD hQ (Nat.le_of_ble_eq_true rfl) (Nat.le_of_ble_eq_true rfl) dX11_look_20
  · refine lv_iconst (v := 0) hx hb dX11_look_12 (by decide) ?_
    have hz_5 : (0 : Int32).toInt = 0 := by decide
    exact g_zret ((0 : Int32), x1) hx hb hr hlocks hS (by first | exact Or.inl rfl | exact Or.inr rfl) rfl (show 0 ≤ x1.toInt ∧ x1.toInt ≤ x0.toInt from (by first | assumption | omega)) hP hD hQ (Nat.le_of_ble_eq_true rfl) (Nat.le_of_ble_eq_true rfl) dX11_look_13
set_option maxRecDepth 100000 in
set_option maxHeartbeats 4000000 in
theorem k_beats (l : Launch) (D : va_G) (cI cR cM : ClassId) (sz : Nat) {jn mm : Nat} {q : Nat → Nat} {x0 x1 x2 x3 x4 x5 x6 x7 x8 x9 x10 x11 x12 x13 x14 x15 x16 x17 x18 x19 x20 : Int32} {f0 f1 f2 f3 f4 f5 f6 f7 f8 f9 f10 f11 f12 f13 f14 f15 f16 f17 f18 f19 f20 f21 f22 f23 f24 : Nat → Int32} {a : Int32}  (hj : 1 ≤ jn ∧ jn ≤ 3) (h0 : 0 ≤ x0.toInt ∧ x0.toInt ≤ 60) (h1 : 0 ≤ x1.toInt ∧ x1.toInt ≤ 60) (hR : RowsX jn f0) : Met l yX11_beats wsX11_beats ({ frames := 3, cells := 0, slots := 0, locals := 65 }) (P0 D cI cR cM [.ref mm, .int a] sz (mX mm q jn cI x0 x1 x2 x3 x4 x5 x6 x7 x8 x9 x10 x11 x12 x13 x14 x15 x16 x17 x18 x19 x20 f0 f1 f2 f3 f4 f5 f6 f7 f8 f9 f10 f11 f12 f13 f14 f15 f16 f17 f18 f19 f20 f21 f22 f23 f24)) (QP (fun r => True) sz) 0 0 (va_A [] sz) := by
  refine go (cc := cX11_beats) (maxL := 3) (ret := (some .int)) (by decide) rfl (Nat.le_of_ble_eq_true rfl) ?_
  intro p e s m below meth c ls args Q hQ hsz hx hb hr hml hts hown hlocks hnm hP hK hD hl
  subst hsz
  have hS : va_S (va_A [] s.heap.size) s.heap s.heap [] := va_S.rf
  have hA : ∀ q, s.heap.size ≤ q → va_A [] s.heap.size q := fun q h => Or.inr h
  have hl : lv_has ls 3 [(0, .ref mm), (1, .int a)] := hl
  refine lv_aload_n hx hb dX11_beats_0 rfl (lv_at hl 0 rfl) ?_
  refine lv_iload_n hx hb dX11_beats_1 rfl (lv_at hl 1 rfl) ?_
  refine roP (va_runV (As := [.int a]) (rest := []) ⟨hx, hb, hml, hown, hts⟩ (k_rowOf l D cI cR cM _  (by first | assumption | omega) (by first | assumption | omega)) (cwV 1 hts gX11_beats_X11_rowOf rfl rfl rfl (by decide +kernel) ⟨Nat.le_of_ble_eq_true rfl, Nat.le_of_ble_eq_true rfl⟩) (pre_V hK hP hD 0 11 rfl rfl) rfl rfl hl.1 rfl (lv_room (Nat.le_of_ble_eq_true rfl)) dX11_beats_2 ⟨Nat.le_of_ble_eq_true rfl, Nat.le_of_ble_eq_true rfl⟩) hS hA hP (fun r_1 H locs hw hP hS => ?_)
  have h_1 : (r_1.toInt = -1 ∨ IsRow jn f0 r_1.toInt) := hw
  refine lv_istore_n (lv' := [(2, .int r_1), (0, .ref mm), (1, .int a)]) hx hb dX11_beats_5 rfl hl (by decide) rfl (fun ls hl => ?_)
  refine lv_iload_n hx hb dX11_beats_6 rfl (lv_at hl 0 rfl) ?_
  refine a_if_ge (u := r_1.toInt) (tgt := 14) hx hb dX11_beats_7 (by decide) (rfl) (fun c_2 => ?_) (fun c_2 => ?_)
  · have hq := h_1.resolve_left (by omega)
    obtain ⟨hr1, hr2, hr3, hr4, hr5, hr6⟩ := hq
    refine lv_aload_n hx hb dX11_beats_14 rfl (lv_at hl 1 rfl) ?_
    refine va_get (D := D) (ci := 11) (v := .ref (q 0)) (C := RX11) (T := TX11) (N := 47) hx hb hts (by decide +kernel) hown hK.1 hP 0 rfl rfl 1 (by decide) (hts (.fieldLink RX11 8 "JugglingHallModel" "rows" "[I") (by decide +kernel)) (fun _ h9 => h9) rfl dX11_beats_15 ?_
    refine lv_iload_n hx hb dX11_beats_18 rfl (lv_at hl 0 rfl) ?_
    refine a_iald (f := f0) (u := r_1.toInt) hx hb hK.1 hP 1 0 rfl rfl dX11_beats_19 (rfl) (by omega) (fun z_3 q_3 e_3 => ?_)
    exact rp_iret hx hb hr hlocks hS (trivial) hQ dX11_beats_20
  · refine lv_iconst (v := (-1)) hx hb dX11_beats_10 (by decide) ?_
    refine lv_goto (tgt := 20) hx hb dX11_beats_11 (by decide) ?_
    have hz_4 : (-1 : Int32).toInt = (-1) := by decide
    exact rp_iret hx hb hr hlocks hS (trivial) hQ dX11_beats_20
set_option maxRecDepth 100000 in
set_option maxHeartbeats 4000000 in
theorem k_isThere (l : Launch) (D : va_G) (cI cR cM : ClassId) (sz : Nat) {jn mm : Nat} {q : Nat → Nat} {x0 x1 x2 x3 x4 x5 x6 x7 x8 x9 x10 x11 x12 x13 x14 x15 x16 x17 x18 x19 x20 : Int32} {f0 f1 f2 f3 f4 f5 f6 f7 f8 f9 f10 f11 f12 f13 f14 f15 f16 f17 f18 f19 f20 f21 f22 f23 f24 : Nat → Int32} {a b d e9 : Int32}  (hj : 1 ≤ jn ∧ jn ≤ 3) (hr0 : a.toInt = -1 ∨ IsRow jn f0 a.toInt) : Met l yX11_isThere wsX11_isThere ({ frames := 1, cells := 0, slots := 0, locals := 22 }) (P0 D cI cR cM [.ref mm, .int a, .int b, .int d, .int e9] sz (mX mm q jn cI x0 x1 x2 x3 x4 x5 x6 x7 x8 x9 x10 x11 x12 x13 x14 x15 x16 x17 x18 x19 x20 f0 f1 f2 f3 f4 f5 f6 f7 f8 f9 f10 f11 f12 f13 f14 f15 f16 f17 f18 f19 f20 f21 f22 f23 f24)) (QP (fun r => (r.toInt = 0 ∨ r.toInt = 1) ∧ (r.toInt = 1 → 0 ≤ a.toInt ∧ 0 ≤ b.toInt ∧ b.toInt < (f0 a.toInt.toNat).toInt ∧ 0 ≤ d.toInt ∧ d.toInt < (jn : Int) ∧ 0 ≤ e9.toInt ∧ e9.toInt ≤ 1)) sz) 0 0 (va_A [] sz) := by
  refine go (cc := cX11_isThere) (maxL := 5) (ret := (some .boolean)) (by decide) rfl (Nat.le_of_ble_eq_true rfl) ?_
  intro p e s m below meth c ls args Q hQ hsz hx hb hr hml hts hown hlocks hnm hP hK hD hl
  subst hsz
  have hS : va_S (va_A [] s.heap.size) s.heap s.heap [] := va_S.rf
  have hA : ∀ q, s.heap.size ≤ q → va_A [] s.heap.size q := fun q h => Or.inr h
  have hl : lv_has ls 5 [(0, .ref mm), (1, .int a), (2, .int b), (3, .int d), (4, .int e9)] := hl
  refine lv_iload_n hx hb dX11_isThere_0 rfl (lv_at hl 1 rfl) ?_
  refine a_if_lt (u := a.toInt) (tgt := 48) hx hb dX11_isThere_1 (by decide) (rfl) (fun c_1 => ?_) (fun c_1 => ?_)
  · refine lv_iconst (v := 0) hx hb dX11_isThere_48 (by decide) ?_
    have hz_2 : (0 : Int32).toInt = 0 := by decide
    exact rp_zret hx hb hr hlocks hS (by first | exact Or.inl rfl | exact Or.inr rfl) (⟨show (0 : Int32).toInt = 0 ∨ (0 : Int32).toInt = 1 from (by first | assumption | omega), show (0 : Int32).toInt = 1 → 0 ≤ a.toInt ∧ 0 ≤ b.toInt ∧ b.toInt < (f0 a.toInt.toNat).toInt ∧ 0 ≤ d.toInt ∧ d.toInt < (jn : Int) ∧ 0 ≤ e9.toInt ∧ e9.toInt ≤ 1 from (by first | assumption | omega)⟩) hQ dX11_isThere_49
  · have hrow9 := hr0.resolve_left (by omega)
    obtain ⟨hr1, hr2, hr3, hr4, hr5, hr6⟩ := hrow9
    refine lv_iload_n hx hb dX11_isThere_4 rfl (lv_at hl 2 rfl) ?_
    refine lv_iconst (v := 0) hx hb dX11_isThere_5 (by decide) ?_
    refine lv_aload_n hx hb dX11_isThere_6 rfl (lv_at hl 0 rfl) ?_
    refine va_get (D := D) (ci := 11) (v := .ref (q 0)) (C := RX11) (T := TX11) (N := 47) hx hb hts (by decide +kernel) hown hK.1 hP 0 rfl rfl 1 (by decide) (hts (.fieldLink RX11 8 "JugglingHallModel" "rows" "[I") (by decide +kernel)) (fun _ h9 => h9) rfl dX11_isThere_7 ?_
    refine lv_iload_n hx hb dX11_isThere_10 rfl (lv_at hl 1 rfl) ?_
    refine a_iald (f := f0) (u := a.toInt) hx hb hK.1 hP 1 0 rfl rfl dX11_isThere_11 (rfl) (by omega) (fun z_3 q_3 e_3 => ?_)
    refine lv_iconst (v := 1) hx hb dX11_isThere_12 (by decide) ?_
    refine a_isub (u := z_3.toInt) (v := 1) hx hb dX11_isThere_13 (rfl) (by decide) (by omega) (fun z_4 e_4 => ?_)
    have hz_5 : (0 : Int32).toInt = 0 := by decide
    refine roP (va_runS (As := [.int b, .int 0, .int z_4]) (rest := []) ⟨hx, hb, hml, hown, hts⟩ (k_isIn l D cI cR cM _  ) (va_cwS 3 hts gX11_isThere_X11_isIn rfl rfl rfl (by decide +kernel) ⟨Nat.le_of_ble_eq_true rfl, Nat.le_of_ble_eq_true rfl⟩) (pre_S hK va_P_nil (va_D_nil (A := fun _ => True))) rfl rfl hl.1 rfl (lv_room (Nat.le_of_ble_eq_true rfl)) dX11_isThere_14 ⟨Nat.le_of_ble_eq_true rfl, Nat.le_of_ble_eq_true rfl⟩) hS hA hP (fun r_6 H locs hw hP hS => ?_)
    have h_6 : ((r_6.toInt = 1 ∧ (0 : Int32).toInt ≤ b.toInt ∧ b.toInt ≤ z_4.toInt) ∨ (r_6.toInt = 0 ∧ (b.toInt < (0 : Int32).toInt ∨ z_4.toInt < b.toInt))) := hw
    refine a_if_eq (u := r_6.toInt) (tgt := 48) hx hb dX11_isThere_17 (by decide) (rfl) (fun c_7 => ?_) (fun c_7 => ?_)
    · refine lv_iconst (v := 0) hx hb dX11_isThere_48 (by decide) ?_
      have hz_8 : (0 : Int32).toInt = 0 := by decide
      exact rp_zret hx hb hr hlocks hS (by first | exact Or.inl rfl | exact Or.inr rfl) (⟨show (0 : Int32).toInt = 0 ∨ (0 : Int32).toInt = 1 from (by first | assumption | omega), show (0 : Int32).toInt = 1 → 0 ≤ a.toInt ∧ 0 ≤ b.toInt ∧ b.toInt < (f0 a.toInt.toNat).toInt ∧ 0 ≤ d.toInt ∧ d.toInt < (jn : Int) ∧ 0 ≤ e9.toInt ∧ e9.toInt ≤ 1 from (by first | assumption | omega)⟩) hQ dX11_isThere_49
    · refine lv_iload_n hx hb dX11_isThere_20 rfl (lv_at hl 3 rfl) ?_
      refine lv_iconst (v := 0) hx hb dX11_isThere_21 (by decide) ?_
      refine lv_aload_n hx hb dX11_isThere_22 rfl (lv_at hl 0 rfl) ?_
      refine va_get (D := D) (ci := 11) (v := .int (nI jn)) (C := RX11) (T := TX11) (N := 47) hx hb hts (by decide +kernel) hown hK.1 hP 0 rfl rfl 0 (by decide) (hts (.fieldLink RX11 93 "JugglingHallModel" "jugglers" "I") (by decide +kernel)) (fun _ h9 => h9) rfl dX11_isThere_23 ?_
      refine lv_iconst (v := 1) hx hb dX11_isThere_26 (by decide) ?_
      refine a_isub (u := (jn : Int)) (v := 1) hx hb dX11_isThere_27 (nI_toInt (by omega)) (by decide) (by omega) (fun z_9 e_9 => ?_)
      have hz_10 : (0 : Int32).toInt = 0 := by decide
      refine roP (va_runS (As := [.int d, .int 0, .int z_9]) (rest := []) ⟨hx, hb, hml, hown, hts⟩ (k_isIn l D cI cR cM _  ) (va_cwS 3 hts gX11_isThere_X11_isIn rfl rfl rfl (by decide +kernel) ⟨Nat.le_of_ble_eq_true rfl, Nat.le_of_ble_eq_true rfl⟩) (pre_S hK va_P_nil (va_D_nil (A := fun _ => True))) rfl rfl hl.1 rfl (lv_room (Nat.le_of_ble_eq_true rfl)) dX11_isThere_28 ⟨Nat.le_of_ble_eq_true rfl, Nat.le_of_ble_eq_true rfl⟩) hS hA hP (fun r_11 H locs hw hP hS => ?_)
      have h_11 : ((r_11.toInt = 1 ∧ (0 : Int32).toInt ≤ d.toInt ∧ d.toInt ≤ z_9.toInt) ∨ (r_11.toInt = 0 ∧ (d.toInt < (0 : Int32).toInt ∨ z_9.toInt < d.toInt))) := hw
      refine a_if_eq (u := r_11.toInt) (tgt := 48) hx hb dX11_isThere_31 (by decide) (rfl) (fun c_12 => ?_) (fun c_12 => ?_)
      · refine lv_iconst (v := 0) hx hb dX11_isThere_48 (by decide) ?_
        have hz_13 : (0 : Int32).toInt = 0 := by decide
        exact rp_zret hx hb hr hlocks hS (by first | exact Or.inl rfl | exact Or.inr rfl) (⟨show (0 : Int32).toInt = 0 ∨ (0 : Int32).toInt = 1 from (by first | assumption | omega), show (0 : Int32).toInt = 1 → 0 ≤ a.toInt ∧ 0 ≤ b.toInt ∧ b.toInt < (f0 a.toInt.toNat).toInt ∧ 0 ≤ d.toInt ∧ d.toInt < (jn : Int) ∧ 0 ≤ e9.toInt ∧ e9.toInt ≤ 1 from (by first | assumption | omega)⟩) hQ dX11_isThere_49
      · refine lv_iload hx hb dX11_isThere_34 (lv_at hl 4 rfl) ?_
        refine lv_iconst (v := 0) hx hb dX11_isThere_36 (by decide) ?_
        refine lv_iconst (v := 1) hx hb dX11_isThere_37 (by decide) ?_
        have hz_14 : (0 : Int32).toInt = 0 := by decide
        have hz_15 : (1 : Int32).toInt = 1 := by decide
        refine roP (va_runS (As := [.int e9, .int 0, .int 1]) (rest := []) ⟨hx, hb, hml, hown, hts⟩ (k_isIn l D cI cR cM _  ) (va_cwS 3 hts gX11_isThere_X11_isIn rfl rfl rfl (by decide +kernel) ⟨Nat.le_of_ble_eq_true rfl, Nat.le_of_ble_eq_true rfl⟩) (pre_S hK va_P_nil (va_D_nil (A := fun _ => True))) rfl rfl hl.1 rfl (lv_room (Nat.le_of_ble_eq_true rfl)) dX11_isThere_38 ⟨Nat.le_of_ble_eq_true rfl, Nat.le_of_ble_eq_true rfl⟩) hS hA hP (fun r_16 H locs hw hP hS => ?_)
        have h_16 : ((r_16.toInt = 1 ∧ (0 : Int32).toInt ≤ e9.toInt ∧ e9.toInt ≤ (1 : Int32).toInt) ∨ (r_16.toInt = 0 ∧ (e9.toInt < (0 : Int32).toInt ∨ (1 : Int32).toInt < e9.toInt))) := hw
        refine a_if_eq (u := r_16.toInt) (tgt := 48) hx hb dX11_isThere_41 (by decide) (rfl) (fun c_17 => ?_) (fun c_17 => ?_)
        · refine lv_iconst (v := 0) hx hb dX11_isThere_48 (by decide) ?_
          have hz_18 : (0 : Int32).toInt = 0 := by decide
          exact rp_zret hx hb hr hlocks hS (by first | exact Or.inl rfl | exact Or.inr rfl) (⟨show (0 : Int32).toInt = 0 ∨ (0 : Int32).toInt = 1 from (by first | assumption | omega), show (0 : Int32).toInt = 1 → 0 ≤ a.toInt ∧ 0 ≤ b.toInt ∧ b.toInt < (f0 a.toInt.toNat).toInt ∧ 0 ≤ d.toInt ∧ d.toInt < (jn : Int) ∧ 0 ≤ e9.toInt ∧ e9.toInt ≤ 1 from (by first | assumption | omega)⟩) hQ dX11_isThere_49
        · refine lv_iconst (v := 1) hx hb dX11_isThere_44 (by decide) ?_
          refine lv_goto (tgt := 49) hx hb dX11_isThere_45 (by decide) ?_
          have hz_19 : (1 : Int32).toInt = 1 := by decide
          exact rp_zret hx hb hr hlocks hS (by first | exact Or.inl rfl | exact Or.inr rfl) (⟨show (1 : Int32).toInt = 0 ∨ (1 : Int32).toInt = 1 from (by first | assumption | omega), show (1 : Int32).toInt = 1 → 0 ≤ a.toInt ∧ 0 ≤ b.toInt ∧ b.toInt < (f0 a.toInt.toNat).toInt ∧ 0 ≤ d.toInt ∧ d.toInt < (jn : Int) ∧ 0 ≤ e9.toInt ∧ e9.toInt ≤ 1 from (by first | assumption | omega)⟩) hQ dX11_isThere_49
set_option maxRecDepth 100000 in
set_option maxHeartbeats 4000000 in
theorem k_thrown (l : Launch) (D : va_G) (cI cR cM : ClassId) (sz : Nat) {jn mm : Nat} {q : Nat → Nat} {x0 x1 x2 x3 x4 x5 x6 x7 x8 x9 x10 x11 x12 x13 x14 x15 x16 x17 x18 x19 x20 : Int32} {f0 f1 f2 f3 f4 f5 f6 f7 f8 f9 f10 f11 f12 f13 f14 f15 f16 f17 f18 f19 f20 f21 f22 f23 f24 : Nat → Int32} {a b d e9 g9 : Int32}  (hj : 1 ≤ jn ∧ jn ≤ 3) (h0 : 0 ≤ x0.toInt ∧ x0.toInt ≤ 60) (h1 : 0 ≤ x1.toInt ∧ x1.toInt ≤ 60) (hR : RowsX jn f0) : Met l yX11_thrown wsX11_thrown ({ frames := 3, cells := 0, slots := 0, locals := 65 }) (P0 D cI cR cM [.ref mm, .int a, .int b, .int d, .int e9, .int g9] sz (mX mm q jn cI x0 x1 x2 x3 x4 x5 x6 x7 x8 x9 x10 x11 x12 x13 x14 x15 x16 x17 x18 x19 x20 f0 f1 f2 f3 f4 f5 f6 f7 f8 f9 f10 f11 f12 f13 f14 f15 f16 f17 f18 f19 f20 f21 f22 f23 f24)) (QP (fun r => True) sz) 0 0 (va_A [] sz) := by
  refine go (cc := cX11_thrown) (maxL := 8) (ret := (some .int)) (by decide) rfl (Nat.le_of_ble_eq_true rfl) ?_
  intro p e s m below meth c ls args Q hQ hsz hx hb hr hml hts hown hlocks hnm hP hK hD hl
  subst hsz
  have hS : va_S (va_A [] s.heap.size) s.heap s.heap [] := va_S.rf
  have hA : ∀ q, s.heap.size ≤ q → va_A [] s.heap.size q := fun q h => Or.inr h
  have hl : lv_has ls 8 [(0, .ref mm), (1, .int a), (2, .int b), (3, .int d), (4, .int e9), (5, .int g9)] := hl
  refine lv_aload_n hx hb dX11_thrown_0 rfl (lv_at hl 0 rfl) ?_
  refine lv_iload_n hx hb dX11_thrown_1 rfl (lv_at hl 1 rfl) ?_
  refine roP (va_runV (As := [.int a]) (rest := []) ⟨hx, hb, hml, hown, hts⟩ (k_rowOf l D cI cR cM _  (by first | assumption | omega) (by first | assumption | omega)) (cwV 1 hts gX11_thrown_X11_rowOf rfl rfl rfl (by decide +kernel) ⟨Nat.le_of_ble_eq_true rfl, Nat.le_of_ble_eq_true rfl⟩) (pre_V hK hP hD 0 11 rfl rfl) rfl rfl hl.1 rfl (lv_room (Nat.le_of_ble_eq_true rfl)) dX11_thrown_2 ⟨Nat.le_of_ble_eq_true rfl, Nat.le_of_ble_eq_true rfl⟩) hS hA hP (fun r_1 H locs hw hP hS => ?_)
  have h_1 : (r_1.toInt = -1 ∨ IsRow jn f0 r_1.toInt) := hw
  refine lv_istore (lv' := [(6, .int r_1), (0, .ref mm), (1, .int a), (2, .int b), (3, .int d), (4, .int e9), (5, .int g9)]) hx hb dX11_thrown_5 hl (by decide) rfl (fun ls hl => ?_)
  refine lv_aload_n hx hb dX11_thrown_7 rfl (lv_at hl 1 rfl) ?_
  refine lv_iload hx hb dX11_thrown_8 (lv_at hl 0 rfl) ?_
  refine lv_iload_n hx hb dX11_thrown_10 rfl (lv_at hl 3 rfl) ?_
  refine lv_iload_n hx hb dX11_thrown_11 rfl (lv_at hl 4 rfl) ?_
  refine lv_iload hx hb dX11_thrown_12 (lv_at hl 5 rfl) ?_
  refine roP (va_runV (As := [.int r_1, .int b, .int d, .int e9]) (rest := []) ⟨hx, hb, hml, hown, hts⟩ (k_isThere l D cI cR cM _  (by first | assumption | omega) (h_1)) (cwV 4 hts gX11_thrown_X11_isThere rfl rfl rfl (by decide +kernel) ⟨Nat.le_of_ble_eq_true rfl, Nat.le_of_ble_eq_true rfl⟩) (pre_V hK hP hD 0 11 rfl rfl) rfl rfl hl.1 rfl (lv_room (Nat.le_of_ble_eq_true rfl)) dX11_thrown_14 ⟨Nat.le_of_ble_eq_true rfl, Nat.le_of_ble_eq_true rfl⟩) hS hA hP (fun r_2 H locs hw hP hS => ?_)
  obtain ⟨h01_2, h_2⟩ : (r_2.toInt = 0 ∨ r_2.toInt = 1) ∧ (r_2.toInt = 1 → 0 ≤ r_1.toInt ∧ 0 ≤ b.toInt ∧ b.toInt < (f0 r_1.toInt.toNat).toInt ∧ 0 ≤ d.toInt ∧ d.toInt < (jn : Int) ∧ 0 ≤ e9.toInt ∧ e9.toInt ≤ 1) := hw
  refine a_if_eq (u := r_2.toInt) (tgt := 30) hx hb dX11_thrown_17 (by decide) (rfl) (fun c_3 => ?_) (fun c_3 => ?_)
  · refine lv_iconst (v := (-1)) hx hb dX11_thrown_30 (by decide) ?_
    have hz_4 : (-1 : Int32).toInt = (-1) := by decide
    exact rp_iret hx hb hr hlocks hS (trivial) hQ dX11_thrown_31
  · refine lv_iload hx hb dX11_thrown_20 (lv_at hl 6 rfl) ?_
    refine lv_iconst (v := 0) hx hb dX11_thrown_22 (by decide) ?_
    refine lv_iconst (v := 1) hx hb dX11_thrown_23 (by decide) ?_
    have hz_5 : (0 : Int32).toInt = 0 := by decide
    have hz_6 : (1 : Int32).toInt = 1 := by decide
    refine roP (va_runS (As := [.int g9, .int 0, .int 1]) (rest := []) ⟨hx, hb, hml, hown, hts⟩ (k_isIn l D cI cR cM _  ) (va_cwS 3 hts gX11_thrown_X11_isIn rfl rfl rfl (by decide +kernel) ⟨Nat.le_of_ble_eq_true rfl, Nat.le_of_ble_eq_true rfl⟩) (pre_S hK va_P_nil (va_D_nil (A := fun _ => True))) rfl rfl hl.1 rfl (lv_room (Nat.le_of_ble_eq_true rfl)) dX11_thrown_24 ⟨Nat.le_of_ble_eq_true rfl, Nat.le_of_ble_eq_true rfl⟩) hS hA hP (fun r_7 H locs hw hP hS => ?_)
    have h_7 : ((r_7.toInt = 1 ∧ (0 : Int32).toInt ≤ g9.toInt ∧ g9.toInt ≤ (1 : Int32).toInt) ∨ (r_7.toInt = 0 ∧ (g9.toInt < (0 : Int32).toInt ∨ (1 : Int32).toInt < g9.toInt))) := hw
    refine a_if_ne (u := r_7.toInt) (tgt := 32) hx hb dX11_thrown_27 (by decide) (rfl) (fun c_8 => ?_) (fun c_8 => ?_)
    · have hrw := h_1.resolve_left (by omega)
      refine lv_aload_n hx hb dX11_thrown_32 rfl (lv_at hl 1 rfl) ?_
      refine lv_iload hx hb dX11_thrown_33 (lv_at hl 0 rfl) ?_
      refine lv_iload_n hx hb dX11_thrown_35 rfl (lv_at hl 3 rfl) ?_
      refine lv_iload_n hx hb dX11_thrown_36 rfl (lv_at hl 4 rfl) ?_
      refine lv_iload hx hb dX11_thrown_37 (lv_at hl 5 rfl) ?_
      refine roP (va_runV (As := [.int r_1, .int b, .int d, .int e9]) (rest := []) ⟨hx, hb, hml, hown, hts⟩ (k_heightAt2 l D cI cR cM _  (by first | assumption | omega) (hrw) (by first | assumption | omega) (by first | assumption | omega) (by first | assumption | omega)) (cwV 4 hts gX11_thrown_X11_heightAt rfl rfl rfl (by decide +kernel) ⟨Nat.le_of_ble_eq_true rfl, Nat.le_of_ble_eq_true rfl⟩) (pre_V hK hP hD 0 11 rfl rfl) rfl rfl hl.1 rfl (lv_room (Nat.le_of_ble_eq_true rfl)) dX11_thrown_39 ⟨Nat.le_of_ble_eq_true rfl, Nat.le_of_ble_eq_true rfl⟩) hS hA hP (fun r_9 H locs hw hP hS => ?_)
      obtain ⟨h_9, hx_9⟩ : (0 ≤ r_9.toInt ∧ r_9.toInt ≤ 9) ∧ (r_9.toInt = (f0 (r_1.toInt + 1 + 6 * b.toInt + 2 * d.toInt + e9.toInt).toNat).toInt / 4) := hw
      refine lv_istore (lv' := [(7, .int r_9), (6, .int r_1), (0, .ref mm), (1, .int a), (2, .int b), (3, .int d), (4, .int e9), (5, .int g9)]) hx hb dX11_thrown_42 hl (by decide) rfl (fun ls hl => ?_)
      refine lv_iload hx hb dX11_thrown_44 (lv_at hl 7 rfl) ?_
      refine a_if_ne (u := g9.toInt) (tgt := 54) hx hb dX11_thrown_46 (by decide) (rfl) (fun c_10 => ?_) (fun c_10 => ?_)
      · refine lv_iload hx hb dX11_thrown_54 (lv_at hl 0 rfl) ?_
        refine a_if_ne (u := r_9.toInt) (tgt := 63) hx hb dX11_thrown_56 (by decide) (rfl) (fun c_11 => ?_) (fun c_11 => ?_)
        · refine lv_aload_n hx hb dX11_thrown_63 rfl (lv_at hl 2 rfl) ?_
          refine lv_iload hx hb dX11_thrown_64 (lv_at hl 1 rfl) ?_
          refine lv_iload_n hx hb dX11_thrown_66 rfl (lv_at hl 4 rfl) ?_
          refine lv_iload_n hx hb dX11_thrown_67 rfl (lv_at hl 5 rfl) ?_
          refine lv_iload hx hb dX11_thrown_68 (lv_at hl 6 rfl) ?_
          refine roP (va_runV (As := [.int r_1, .int b, .int d, .int e9]) (rest := []) ⟨hx, hb, hml, hown, hts⟩ (k_toAt2 l D cI cR cM _  (by first | assumption | omega) (hrw) (by first | assumption | omega) (by first | assumption | omega) (by first | assumption | omega)) (cwV 4 hts gX11_thrown_X11_toAt rfl rfl rfl (by decide +kernel) ⟨Nat.le_of_ble_eq_true rfl, Nat.le_of_ble_eq_true rfl⟩) (pre_V hK hP hD 0 11 rfl rfl) rfl rfl hl.1 rfl (lv_room (Nat.le_of_ble_eq_true rfl)) dX11_thrown_70 ⟨Nat.le_of_ble_eq_true rfl, Nat.le_of_ble_eq_true rfl⟩) hS hA hP (fun r_12 H locs hw hP hS => ?_)
          obtain ⟨h_12, hx_12⟩ : (0 ≤ r_12.toInt ∧ r_12.toInt < (jn : Int)) ∧ (r_12.toInt = (f0 (r_1.toInt + 1 + 6 * b.toInt + 2 * d.toInt + e9.toInt).toNat).toInt % 4) := hw
          exact rp_iret hx hb hr hlocks hS (trivial) hQ dX11_thrown_73
        · refine lv_iconst (v := (-1)) hx hb dX11_thrown_59 (by decide) ?_
          refine lv_goto (tgt := 73) hx hb dX11_thrown_60 (by decide) ?_
          have hz_13 : (-1 : Int32).toInt = (-1) := by decide
          exact rp_iret hx hb hr hlocks hS (trivial) hQ dX11_thrown_73
      · refine lv_iload hx hb dX11_thrown_49 (lv_at hl 0 rfl) ?_
        refine lv_goto (tgt := 73) hx hb dX11_thrown_51 (by decide) ?_
        exact rp_iret hx hb hr hlocks hS (trivial) hQ dX11_thrown_73
    · refine lv_iconst (v := (-1)) hx hb dX11_thrown_30 (by decide) ?_
      have hz_14 : (-1 : Int32).toInt = (-1) := by decide
      exact rp_iret hx hb hr hlocks hS (trivial) hQ dX11_thrown_31
set_option maxRecDepth 100000 in
set_option maxHeartbeats 4000000 in
theorem k_isPlainRow (l : Launch) (D : va_G) (cI cR cM : ClassId) (sz : Nat) {jn mm : Nat} {q : Nat → Nat} {x0 x1 x2 x3 x4 x5 x6 x7 x8 x9 x10 x11 x12 x13 x14 x15 x16 x17 x18 x19 x20 : Int32} {f0 f1 f2 f3 f4 f5 f6 f7 f8 f9 f10 f11 f12 f13 f14 f15 f16 f17 f18 f19 f20 f21 f22 f23 f24 : Nat → Int32} {a : Int32}  (hj : 1 ≤ jn ∧ jn ≤ 3) (hrow9 : IsRow jn f0 a.toInt) : Met l yX11_isPlainRow wsX11_isPlainRow ({ frames := 1, cells := 0, slots := 0, locals := 24 }) (P0 D cI cR cM [.ref mm, .int a] sz (mX mm q jn cI x0 x1 x2 x3 x4 x5 x6 x7 x8 x9 x10 x11 x12 x13 x14 x15 x16 x17 x18 x19 x20 f0 f1 f2 f3 f4 f5 f6 f7 f8 f9 f10 f11 f12 f13 f14 f15 f16 f17 f18 f19 f20 f21 f22 f23 f24)) (QP (fun r => (r.toInt = 0 ∨ r.toInt = 1) ∧ (r.toInt = 1 → jn = 1)) sz) 0 0 (va_A [] sz) := by
  refine go (cc := cX11_isPlainRow) (maxL := 3) (ret := (some .boolean)) (by decide) rfl (Nat.le_of_ble_eq_true rfl) ?_
  intro p e s m below meth c ls args Q hQ hsz hx hb hr hml hts hown hlocks hnm hP hK hD hl
  subst hsz
  have hS : va_S (va_A [] s.heap.size) s.heap s.heap [] := va_S.rf
  have hA : ∀ q, s.heap.size ≤ q → va_A [] s.heap.size q := fun q h => Or.inr h
  have hl : lv_has ls 3 [(0, .ref mm), (1, .int a)] := hl
  have hr0 := hrow9
  obtain ⟨hr1, hr2, hr3, hr4, hr5, hr6⟩ := hrow9
  refine lv_iconst (v := 0) hx hb dX11_isPlainRow_0 (by decide) ?_
  refine lv_istore_n (lv' := [(2, .int 0), (0, .ref mm), (1, .int a)]) hx hb dX11_isPlainRow_1 rfl hl (by decide) rfl (fun ls hl => ?_)
  have loop2 : ∀ (ddloop2 : Nat) (i : Int32) (H : Heap) (locs : List Loc) (ls : Array Slot), (30 - i.toInt).toNat < ddloop2 → (0 ≤ i.toInt ∧ i.toInt ≤ 24) → va_P D vwCl (mX mm q jn cI x0 x1 x2 x3 x4 x5 x6 x7 x8 x9 x10 x11 x12 x13 x14 x15 x16 x17 x18 x19 x20 f0 f1 f2 f3 f4 f5 f6 f7 f8 f9 f10 f11 f12 f13 f14 f15 f16 f17 f18 f19 f20 f21 f22 f23 f24) H → va_S (va_A [] s.heap.size) s.heap H locs → lv_has ls 3 [(0, .ref mm), (1, .int a), (2, .int i)] → W p l e ({ frames := 1, cells := 0, slots := 0, locals := 24 }) s m args below meth c H locs 0 0 Q (F0 m 2 ls []) := by
    intro ddloop2
    induction ddloop2 with
    | zero =>
      intro i H locs ls hdd
      exact absurd hdd (Nat.not_lt_zero _)
    | succ ddloop2 ih2 =>
      intro i H locs ls hdd hi hP hS hl
      refine lv_iload_n hx hb dX11_isPlainRow_2 rfl (lv_at hl 2 rfl) ?_
      refine lv_aload_n hx hb dX11_isPlainRow_3 rfl (lv_at hl 0 rfl) ?_
      refine va_get (D := D) (ci := 11) (v := .ref (q 0)) (C := RX11) (T := TX11) (N := 47) hx hb hts (by decide +kernel) hown hK.1 hP 0 rfl rfl 1 (by decide) (hts (.fieldLink RX11 8 "JugglingHallModel" "rows" "[I") (by decide +kernel)) (fun _ h9 => h9) rfl dX11_isPlainRow_4 ?_
      refine lv_iload_n hx hb dX11_isPlainRow_7 rfl (lv_at hl 1 rfl) ?_
      refine a_iald (f := f0) (u := a.toInt) hx hb hK.1 hP 1 0 rfl rfl dX11_isPlainRow_8 (rfl) (by omega) (fun z_1 q_1 e_1 => ?_)
      refine a_icmp_ge (u := i.toInt) (v := z_1.toInt) (tgt := 31) hx hb dX11_isPlainRow_9 (by decide) (rfl) (rfl) (fun c_2 => ?_) (fun c_2 => ?_)
      · refine lv_aload_n hx hb dX11_isPlainRow_31 rfl (lv_at hl 0 rfl) ?_
        refine va_get (D := D) (ci := 11) (v := .int (nI jn)) (C := RX11) (T := TX11) (N := 47) hx hb hts (by decide +kernel) hown hK.1 hP 0 rfl rfl 0 (by decide) (hts (.fieldLink RX11 93 "JugglingHallModel" "jugglers" "I") (by decide +kernel)) (fun _ h9 => h9) rfl dX11_isPlainRow_32 ?_
        refine lv_iconst (v := 1) hx hb dX11_isPlainRow_35 (by decide) ?_
        refine a_icmp_ne (u := (jn : Int)) (v := 1) (tgt := 43) hx hb dX11_isPlainRow_36 (by decide) (nI_toInt (by omega)) (by decide) (fun c_3 => ?_) (fun c_3 => ?_)
        · refine lv_iconst (v := 0) hx hb dX11_isPlainRow_43 (by decide) ?_
          have hz_4 : (0 : Int32).toInt = 0 := by decide
          exact rp_zret hx hb hr hlocks hS (by first | exact Or.inl rfl | exact Or.inr rfl) (⟨show (0 : Int32).toInt = 0 ∨ (0 : Int32).toInt = 1 from (by first | assumption | omega), show (0 : Int32).toInt = 1 → jn = 1 from (by first | assumption | omega)⟩) hQ dX11_isPlainRow_44
        · refine lv_iconst (v := 1) hx hb dX11_isPlainRow_39 (by decide) ?_
          refine lv_goto (tgt := 44) hx hb dX11_isPlainRow_40 (by decide) ?_
          have hz_5 : (1 : Int32).toInt = 1 := by decide
          exact rp_zret hx hb hr hlocks hS (by first | exact Or.inl rfl | exact Or.inr rfl) (⟨show (1 : Int32).toInt = 0 ∨ (1 : Int32).toInt = 1 from (by first | assumption | omega), show (1 : Int32).toInt = 1 → jn = 1 from (by first | assumption | omega)⟩) hQ dX11_isPlainRow_44
      · refine lv_aload_n hx hb dX11_isPlainRow_12 rfl (lv_at hl 0 rfl) ?_
        refine lv_iload_n hx hb dX11_isPlainRow_13 rfl (lv_at hl 1 rfl) ?_
        refine lv_iload_n hx hb dX11_isPlainRow_14 rfl (lv_at hl 2 rfl) ?_
        refine lv_iconst (v := 0) hx hb dX11_isPlainRow_15 (by decide) ?_
        refine lv_iconst (v := 1) hx hb dX11_isPlainRow_16 (by decide) ?_
        have hz_6 : (0 : Int32).toInt = 0 := by decide
        have hz_7 : (1 : Int32).toInt = 1 := by decide
        refine roP (va_runV (As := [.int a, .int i, .int 0, .int 1]) (rest := []) ⟨hx, hb, hml, hown, hts⟩ (k_heightAt2 l D cI cR cM _  (by first | assumption | omega) (hr0) (by first | assumption | omega) (by first | assumption | omega) (by first | assumption | omega)) (cwV 4 hts gX11_isPlainRow_X11_heightAt rfl rfl rfl (by decide +kernel) ⟨Nat.le_of_ble_eq_true rfl, Nat.le_of_ble_eq_true rfl⟩) (pre_V hK hP hD 0 11 rfl rfl) rfl rfl hl.1 rfl (lv_room (Nat.le_of_ble_eq_true rfl)) dX11_isPlainRow_17 ⟨Nat.le_of_ble_eq_true rfl, Nat.le_of_ble_eq_true rfl⟩) hS hA hP (fun r_8 H locs hw hP hS => ?_)
        obtain ⟨h_8, hx_8⟩ : (0 ≤ r_8.toInt ∧ r_8.toInt ≤ 9) ∧ (r_8.toInt = (f0 (a.toInt + 1 + 6 * i.toInt + 2 * (0 : Int32).toInt + (1 : Int32).toInt).toNat).toInt / 4) := hw
        refine a_if_le (u := r_8.toInt) (tgt := 25) hx hb dX11_isPlainRow_20 (by decide) (rfl) (fun c_9 => ?_) (fun c_9 => ?_)
        · obtain ⟨z_10, q_10, e_10⟩ := i_inc (a := i.toInt) (1) (rfl) (by decide) (by omega) (by omega)
          refine lv_iinc (v := z_10) (lv' := [(2, .int z_10), (0, .ref mm), (1, .int a)]) hx hb dX11_isPlainRow_25 hl (k := 2) rfl q_10 (by decide) rfl (fun ls hl => ?_)
          refine lv_goto (tgt := 2) hx hb dX11_isPlainRow_28 (by decide) ?_
          exact ih2 z_10 _ _ _ (by omega) (by first | assumption | omega) hP hS (lv_sub hl [1, 2, 0] rfl)
        · refine lv_iconst (v := 0) hx hb dX11_isPlainRow_23 (by decide) ?_
          have hz_11 : (0 : Int32).toInt = 0 := by decide
          exact rp_zret hx hb hr hlocks hS (by first | exact Or.inl rfl | exact Or.inr rfl) (⟨show (0 : Int32).toInt = 0 ∨ (0 : Int32).toInt = 1 from (by first | assumption | omega), show (0 : Int32).toInt = 1 → jn = 1 from (by first | assumption | omega)⟩) hQ dX11_isPlainRow_24
  have hz_12 : (0 : Int32).toInt = 0 := by decide
  exact loop2 ((30 - (0 : Int32).toInt).toNat + 1) (0 : Int32) _ _ _ (by omega) (by first | assumption | omega) hP hS (lv_sub hl [1, 2, 0] rfl)
set_option maxRecDepth 100000 in
set_option maxHeartbeats 4000000 in
theorem k_clear (l : Launch) (D : va_G) (cI cR cM : ClassId) (sz : Nat) {jn mm : Nat} {q : Nat → Nat} {x0 x1 x2 x3 x4 x5 x6 x7 x8 x9 x10 x11 x12 x13 x14 x15 x16 x17 x18 x19 x20 : Int32} {f0 f1 f2 f3 f4 f5 f6 f7 f8 f9 f10 f11 f12 f13 f14 f15 f16 f17 f18 f19 f20 f21 f22 f23 f24 : Nat → Int32}   : Met l yX11_clear wsX11_clear ({ frames := 0, cells := 0, slots := 0, locals := 0 }) (P0 D cI cR cM [.ref mm] sz (mX mm q jn cI x0 x1 x2 x3 x4 x5 x6 x7 x8 x9 x10 x11 x12 x13 x14 x15 x16 x17 x18 x19 x20 f0 f1 f2 f3 f4 f5 f6 f7 f8 f9 f10 f11 f12 f13 f14 f15 f16 f17 f18 f19 f20 f21 f22 f23 f24)) (QG (S := Int32 × Int32) (fun u => some (.int u.1)) (fun u => mX mm q jn cI x0 x1 x2 x3 x4 x5 x6 x7 x8 x9 x10 x11 x12 x13 x14 x15 x16 x17 (u.2) x19 x20 f0 f1 f2 f3 f4 f5 f6 f7 f8 f9 f10 f11 f12 f13 f14 f15 f16 f17 f18 f19 f20 f21 f22 f23 f24) (fun u => (u.2.toInt = 0)) D (va_A (mX mm q jn cI x0 x1 x2 x3 x4 x5 x6 x7 x8 x9 x10 x11 x12 x13 x14 x15 x16 x17 x18 x19 x20 f0 f1 f2 f3 f4 f5 f6 f7 f8 f9 f10 f11 f12 f13 f14 f15 f16 f17 f18 f19 f20 f21 f22 f23 f24) sz)) 0 0 (va_A (mX mm q jn cI x0 x1 x2 x3 x4 x5 x6 x7 x8 x9 x10 x11 x12 x13 x14 x15 x16 x17 x18 x19 x20 f0 f1 f2 f3 f4 f5 f6 f7 f8 f9 f10 f11 f12 f13 f14 f15 f16 f17 f18 f19 f20 f21 f22 f23 f24) sz) := by
  refine go (cc := cX11_clear) (maxL := 2) (ret := (some .int)) (by decide) rfl (Nat.le_of_ble_eq_true rfl) ?_
  intro p e s m below meth c ls args Q hQ hsz hx hb hr hml hts hown hlocks hnm hP hK hD hl
  subst hsz
  have hD := hD.self (sz := s.heap.size)
  generalize hAe : va_A (mX mm q jn cI x0 x1 x2 x3 x4 x5 x6 x7 x8 x9 x10 x11 x12 x13 x14 x15 x16 x17 x18 x19 x20 f0 f1 f2 f3 f4 f5 f6 f7 f8 f9 f10 f11 f12 f13 f14 f15 f16 f17 f18 f19 f20 f21 f22 f23 f24) s.heap.size = A at hD hQ
  have hA : ∀ q, s.heap.size ≤ q → A q := fun q h => by rw [← hAe]; exact Or.inr h
  have hS : va_S A s.heap s.heap [] := va_S.rf
  have hl : lv_has ls 2 [(0, .ref mm)] := hl
  refine lv_aload_n hx hb dX11_clear_0 rfl (lv_at hl 0 rfl) ?_
  refine va_get (D := D) (ci := 11) (v := .int x18) (C := RX11) (T := TX11) (N := 47) hx hb hts (by decide +kernel) hown hK.1 hP 0 rfl rfl 42 (by decide) (hts (.fieldLink RX11 310 "JugglingHallModel" "scored" "I") (by decide +kernel)) (fun _ h9 => h9) rfl dX11_clear_1 ?_
  refine lv_istore_n (lv' := [(1, .int x18), (0, .ref mm)]) hx hb dX11_clear_4 rfl hl (by decide) rfl (fun ls hl => ?_)
  refine lv_aload_n hx hb dX11_clear_5 rfl (lv_at hl 1 rfl) ?_
  refine lv_iconst (v := 0) hx hb dX11_clear_6 (by decide) ?_
  refine mp_18 hx hb hts (by decide +kernel) hown hK hP hD hS (hts (.fieldLink RX11 310 "JugglingHallModel" "scored" "I") (by decide +kernel)) dX11_clear_7 (fun H locs hP hD hS => ?_)
  refine lv_iload_n hx hb dX11_clear_10 rfl (lv_at hl 0 rfl) ?_
  have hz_1 : (0 : Int32).toInt = 0 := by decide
  exact g_iret (x18, (0 : Int32)) hx hb hr hlocks hS rfl (show (0 : Int32).toInt = 0 from (by first | assumption | omega)) hP hD hQ (Nat.le_of_ble_eq_true rfl) (Nat.le_of_ble_eq_true rfl) dX11_clear_11
set_option maxRecDepth 100000 in
set_option maxHeartbeats 4000000 in
theorem k_score (l : Launch) (D : va_G) (cI cR cM : ClassId) (sz : Nat) {jn mm : Nat} {q : Nat → Nat} {x0 x1 x2 x3 x4 x5 x6 x7 x8 x9 x10 x11 x12 x13 x14 x15 x16 x17 x18 x19 x20 : Int32} {f0 f1 f2 f3 f4 f5 f6 f7 f8 f9 f10 f11 f12 f13 f14 f15 f16 f17 f18 f19 f20 f21 f22 f23 f24 : Nat → Int32} {a b : Int32}  (h18 : 0 ≤ x18.toInt ∧ x18.toInt ≤ 300) : Met l yX11_score wsX11_score ({ frames := 1, cells := 0, slots := 0, locals := 22 }) (P0 D cI cR cM [.ref mm, .int a, .int b] sz (mX mm q jn cI x0 x1 x2 x3 x4 x5 x6 x7 x8 x9 x10 x11 x12 x13 x14 x15 x16 x17 x18 x19 x20 f0 f1 f2 f3 f4 f5 f6 f7 f8 f9 f10 f11 f12 f13 f14 f15 f16 f17 f18 f19 f20 f21 f22 f23 f24)) (QP (fun r => True) sz) 0 0 (va_A [] sz) := by
  refine go (cc := cX11_score) (maxL := 3) (ret := (some .int)) (by decide) rfl (Nat.le_of_ble_eq_true rfl) ?_
  intro p e s m below meth c ls args Q hQ hsz hx hb hr hml hts hown hlocks hnm hP hK hD hl
  subst hsz
  have hS : va_S (va_A [] s.heap.size) s.heap s.heap [] := va_S.rf
  have hA : ∀ q, s.heap.size ≤ q → va_A [] s.heap.size q := fun q h => Or.inr h
  have hl : lv_has ls 3 [(0, .ref mm), (1, .int a), (2, .int b)] := hl
  refine lv_iload_n hx hb dX11_score_0 rfl (lv_at hl 1 rfl) ?_
  refine lv_iconst (v := 0) hx hb dX11_score_1 (by decide) ?_
  refine lv_aload_n hx hb dX11_score_2 rfl (lv_at hl 0 rfl) ?_
  refine va_get (D := D) (ci := 11) (v := .int x18) (C := RX11) (T := TX11) (N := 47) hx hb hts (by decide +kernel) hown hK.1 hP 0 rfl rfl 42 (by decide) (hts (.fieldLink RX11 310 "JugglingHallModel" "scored" "I") (by decide +kernel)) (fun _ h9 => h9) rfl dX11_score_3 ?_
  refine lv_iconst (v := 1) hx hb dX11_score_6 (by decide) ?_
  refine a_isub (u := x18.toInt) (v := 1) hx hb dX11_score_7 (rfl) (by decide) (by omega) (fun z_1 e_1 => ?_)
  have hz_2 : (0 : Int32).toInt = 0 := by decide
  refine roP (va_runS (As := [.int a, .int 0, .int z_1]) (rest := []) ⟨hx, hb, hml, hown, hts⟩ (k_isIn l D cI cR cM _  ) (va_cwS 3 hts gX11_score_X11_isIn rfl rfl rfl (by decide +kernel) ⟨Nat.le_of_ble_eq_true rfl, Nat.le_of_ble_eq_true rfl⟩) (pre_S hK va_P_nil (va_D_nil (A := fun _ => True))) rfl rfl hl.1 rfl (lv_room (Nat.le_of_ble_eq_true rfl)) dX11_score_8 ⟨Nat.le_of_ble_eq_true rfl, Nat.le_of_ble_eq_true rfl⟩) hS hA hP (fun r_3 H locs hw hP hS => ?_)
  have h_3 : ((r_3.toInt = 1 ∧ (0 : Int32).toInt ≤ a.toInt ∧ a.toInt ≤ z_1.toInt) ∨ (r_3.toInt = 0 ∧ (a.toInt < (0 : Int32).toInt ∨ z_1.toInt < a.toInt))) := hw
  refine a_if_ne (u := r_3.toInt) (tgt := 16) hx hb dX11_score_11 (by decide) (rfl) (fun c_4 => ?_) (fun c_4 => ?_)
  · refine lv_iload_n hx hb dX11_score_16 rfl (lv_at hl 2 rfl) ?_
    refine a_if_ne (u := b.toInt) (tgt := 29) hx hb dX11_score_17 (by decide) (rfl) (fun c_5 => ?_) (fun c_5 => ?_)
    · refine lv_iload_n hx hb dX11_score_29 rfl (lv_at hl 2 rfl) ?_
      refine lv_iconst (v := 1) hx hb dX11_score_30 (by decide) ?_
      refine a_icmp_ne (u := b.toInt) (v := 1) (tgt := 43) hx hb dX11_score_31 (by decide) (rfl) (by decide) (fun c_6 => ?_) (fun c_6 => ?_)
      · refine lv_iconst (v := (-1)) hx hb dX11_score_43 (by decide) ?_
        have hz_7 : (-1 : Int32).toInt = (-1) := by decide
        exact rp_iret hx hb hr hlocks hS (trivial) hQ dX11_score_44
      · refine lv_aload_n hx hb dX11_score_34 rfl (lv_at hl 0 rfl) ?_
        refine va_get (D := D) (ci := 11) (v := .ref (q 22)) (C := RX11) (T := TX11) (N := 47) hx hb hts (by decide +kernel) hown hK.1 hP 0 rfl rfl 41 (by decide) (hts (.fieldLink RX11 84 "JugglingHallModel" "scoreLetter" "[I") (by decide +kernel)) (fun _ h9 => h9) rfl dX11_score_35 ?_
        refine lv_iload_n hx hb dX11_score_38 rfl (lv_at hl 1 rfl) ?_
        refine a_iald (f := f22) (u := a.toInt) hx hb hK.1 hP 23 0 rfl rfl dX11_score_39 (rfl) (by omega) (fun z_8 q_8 e_8 => ?_)
        refine lv_goto (tgt := 44) hx hb dX11_score_40 (by decide) ?_
        exact rp_iret hx hb hr hlocks hS (trivial) hQ dX11_score_44
    · refine lv_aload_n hx hb dX11_score_20 rfl (lv_at hl 0 rfl) ?_
      refine va_get (D := D) (ci := 11) (v := .ref (q 21)) (C := RX11) (T := TX11) (N := 47) hx hb hts (by decide +kernel) hown hK.1 hP 0 rfl rfl 40 (by decide) (hts (.fieldLink RX11 81 "JugglingHallModel" "scoreHeight" "[I") (by decide +kernel)) (fun _ h9 => h9) rfl dX11_score_21 ?_
      refine lv_iload_n hx hb dX11_score_24 rfl (lv_at hl 1 rfl) ?_
      refine a_iald (f := f21) (u := a.toInt) hx hb hK.1 hP 22 0 rfl rfl dX11_score_25 (rfl) (by omega) (fun z_9 q_9 e_9 => ?_)
      refine lv_goto (tgt := 44) hx hb dX11_score_26 (by decide) ?_
      exact rp_iret hx hb hr hlocks hS (trivial) hQ dX11_score_44
  · refine lv_iconst (v := (-1)) hx hb dX11_score_14 (by decide) ?_
    have hz_10 : (-1 : Int32).toInt = (-1) := by decide
    exact rp_iret hx hb hr hlocks hS (trivial) hQ dX11_score_15
set_option maxRecDepth 100000 in
set_option maxHeartbeats 4000000 in
theorem k_seenRow (l : Launch) (D : va_G) (cI cR cM : ClassId) (sz : Nat) {jn mm : Nat} {q : Nat → Nat} {x0 x1 x2 x3 x4 x5 x6 x7 x8 x9 x10 x11 x12 x13 x14 x15 x16 x17 x18 x19 x20 : Int32} {f0 f1 f2 f3 f4 f5 f6 f7 f8 f9 f10 f11 f12 f13 f14 f15 f16 f17 f18 f19 f20 f21 f22 f23 f24 : Nat → Int32}  (h1 : 0 ≤ x1.toInt ∧ x1.toInt ≤ 60) (hSe : SeenX f1) : Met l yX11_seenRow wsX11_seenRow ({ frames := 0, cells := 0, slots := 0, locals := 0 }) (P0 D cI cR cM [.ref mm] sz (mX mm q jn cI x0 x1 x2 x3 x4 x5 x6 x7 x8 x9 x10 x11 x12 x13 x14 x15 x16 x17 x18 x19 x20 f0 f1 f2 f3 f4 f5 f6 f7 f8 f9 f10 f11 f12 f13 f14 f15 f16 f17 f18 f19 f20 f21 f22 f23 f24)) (QP (fun r => (r.toInt = -1 ∨ IsSeen f1 r.toInt)) sz) 0 0 (va_A [] sz) := by
  refine go (cc := cX11_seenRow) (maxL := 2) (ret := (some .int)) (by decide) rfl (Nat.le_of_ble_eq_true rfl) ?_
  intro p e s m below meth c ls args Q hQ hsz hx hb hr hml hts hown hlocks hnm hP hK hD hl
  subst hsz
  have hS : va_S (va_A [] s.heap.size) s.heap s.heap [] := va_S.rf
  have hA : ∀ q, s.heap.size ≤ q → va_A [] s.heap.size q := fun q h => Or.inr h
  have hl : lv_has ls 2 [(0, .ref mm)] := hl
  refine lv_aload_n hx hb dX11_seenRow_0 rfl (lv_at hl 0 rfl) ?_
  refine va_get (D := D) (ci := 11) (v := .int x1) (C := RX11) (T := TX11) (N := 47) hx hb hts (by decide +kernel) hown hK.1 hP 0 rfl rfl 4 (by decide) (hts (.fieldLink RX11 104 "JugglingHallModel" "looked" "I") (by decide +kernel)) (fun _ h9 => h9) rfl dX11_seenRow_1 ?_
  refine lv_istore_n (lv' := [(1, .int x1), (0, .ref mm)]) hx hb dX11_seenRow_4 rfl hl (by decide) rfl (fun ls hl => ?_)
  have loop5 : ∀ (ddloop5 : Nat) (i : Int32) (H : Heap) (locs : List Loc) (ls : Array Slot), (i.toInt).toNat < ddloop5 → (0 ≤ i.toInt ∧ i.toInt ≤ 60) → va_P D vwCl (mX mm q jn cI x0 x1 x2 x3 x4 x5 x6 x7 x8 x9 x10 x11 x12 x13 x14 x15 x16 x17 x18 x19 x20 f0 f1 f2 f3 f4 f5 f6 f7 f8 f9 f10 f11 f12 f13 f14 f15 f16 f17 f18 f19 f20 f21 f22 f23 f24) H → va_S (va_A [] s.heap.size) s.heap H locs → lv_has ls 2 [(0, .ref mm), (1, .int i)] → W p l e ({ frames := 0, cells := 0, slots := 0, locals := 0 }) s m args below meth c H locs 0 0 Q (F0 m 5 ls []) := by
    intro ddloop5
    induction ddloop5 with
    | zero =>
      intro i H locs ls hdd
      exact absurd hdd (Nat.not_lt_zero _)
    | succ ddloop5 ih5 =>
      intro i H locs ls hdd hi hP hS hl
      refine lv_iload_n hx hb dX11_seenRow_5 rfl (lv_at hl 1 rfl) ?_
      refine a_if_le (u := i.toInt) (tgt := 32) hx hb dX11_seenRow_6 (by decide) (rfl) (fun c_1 => ?_) (fun c_1 => ?_)
      · refine lv_iconst (v := (-1)) hx hb dX11_seenRow_32 (by decide) ?_
        have hz_2 : (-1 : Int32).toInt = (-1) := by decide
        exact rp_iret hx hb hr hlocks hS (show (-1 : Int32).toInt = -1 ∨ IsSeen f1 (-1 : Int32).toInt from (Or.inl (by omega))) hQ dX11_seenRow_33
      · refine lv_aload_n hx hb dX11_seenRow_9 rfl (lv_at hl 0 rfl) ?_
        refine va_get (D := D) (ci := 11) (v := .ref (q 1)) (C := RX11) (T := TX11) (N := 47) hx hb hts (by decide +kernel) hown hK.1 hP 0 rfl rfl 2 (by decide) (hts (.fieldLink RX11 14 "JugglingHallModel" "seenRows" "[I") (by decide +kernel)) (fun _ h9 => h9) rfl dX11_seenRow_10 ?_
        refine lv_bipush (v := 8) hx hb dX11_seenRow_13 (by decide) ?_
        refine lv_iload_n hx hb dX11_seenRow_15 rfl (lv_at hl 1 rfl) ?_
        refine a_imul (u := 8) (v := i.toInt) hx hb dX11_seenRow_16 (by decide) (rfl) (by omega) (fun z_3 e_3 => ?_)
        refine a_iald (f := f1) (u := (8 * i.toInt)) hx hb hK.1 hP 2 0 rfl rfl dX11_seenRow_17 (e_3) (by omega) (fun z_4 q_4 e_4 => ?_)
        refine a_if_le (u := z_4.toInt) (tgt := 26) hx hb dX11_seenRow_18 (by decide) (rfl) (fun c_5 => ?_) (fun c_5 => ?_)
        · obtain ⟨z_6, q_6, e_6⟩ := i_inc (a := i.toInt) (-1) (rfl) (by decide) (by omega) (by omega)
          refine lv_iinc (v := z_6) (lv' := [(1, .int z_6), (0, .ref mm)]) hx hb dX11_seenRow_26 hl (k := 1) rfl q_6 (by decide) rfl (fun ls hl => ?_)
          refine lv_goto (tgt := 5) hx hb dX11_seenRow_29 (by decide) ?_
          exact ih5 z_6 _ _ _ (by omega) (by first | assumption | omega) hP hS (lv_sub hl [1, 0] rfl)
        · refine lv_bipush (v := 8) hx hb dX11_seenRow_21 (by decide) ?_
          refine lv_iload_n hx hb dX11_seenRow_23 rfl (lv_at hl 1 rfl) ?_
          refine a_imul (u := 8) (v := i.toInt) hx hb dX11_seenRow_24 (by decide) (rfl) (by omega) (fun z_7 e_7 => ?_)
          exact rp_iret hx hb hr hlocks hS (show z_7.toInt = -1 ∨ IsSeen f1 z_7.toInt from (Or.inr (by obtain ⟨s1, s2, s3⟩ := hSe i.toInt (by omega) (by omega); rw [show z_7.toInt = 8 * i.toInt by omega]; exact ⟨by omega, by omega, by omega, s2, s3⟩))) hQ dX11_seenRow_25
  exact loop5 ((x1.toInt).toNat + 1) x1 _ _ _ (by omega) (by first | assumption | omega) hP hS (lv_sub hl [1, 0] rfl)
set_option maxRecDepth 100000 in
set_option maxHeartbeats 4000000 in
theorem k_seen (l : Launch) (D : va_G) (cI cR cM : ClassId) (sz : Nat) {jn mm : Nat} {q : Nat → Nat} {x0 x1 x2 x3 x4 x5 x6 x7 x8 x9 x10 x11 x12 x13 x14 x15 x16 x17 x18 x19 x20 : Int32} {f0 f1 f2 f3 f4 f5 f6 f7 f8 f9 f10 f11 f12 f13 f14 f15 f16 f17 f18 f19 f20 f21 f22 f23 f24 : Nat → Int32} {a : Int32}  (h1 : 0 ≤ x1.toInt ∧ x1.toInt ≤ 60) (hSe : SeenX f1) : Met l yX11_seen wsX11_seen ({ frames := 1, cells := 0, slots := 0, locals := 22 }) (P0 D cI cR cM [.ref mm, .int a] sz (mX mm q jn cI x0 x1 x2 x3 x4 x5 x6 x7 x8 x9 x10 x11 x12 x13 x14 x15 x16 x17 x18 x19 x20 f0 f1 f2 f3 f4 f5 f6 f7 f8 f9 f10 f11 f12 f13 f14 f15 f16 f17 f18 f19 f20 f21 f22 f23 f24)) (QP (fun r => True) sz) 0 0 (va_A [] sz) := by
  refine go (cc := cX11_seen) (maxL := 4) (ret := (some .int)) (by decide) rfl (Nat.le_of_ble_eq_true rfl) ?_
  intro p e s m below meth c ls args Q hQ hsz hx hb hr hml hts hown hlocks hnm hP hK hD hl
  subst hsz
  have hS : va_S (va_A [] s.heap.size) s.heap s.heap [] := va_S.rf
  have hA : ∀ q, s.heap.size ≤ q → va_A [] s.heap.size q := fun q h => Or.inr h
  have hl : lv_has ls 4 [(0, .ref mm), (1, .int a)] := hl
  refine lv_aload_n hx hb dX11_seen_0 rfl (lv_at hl 0 rfl) ?_
  refine roP (va_runV (As := []) (rest := []) ⟨hx, hb, hml, hown, hts⟩ (k_seenRow l D cI cR cM _  (by first | assumption | omega) (by first | assumption | omega)) (cwV 0 hts gX11_seen_X11_seenRow rfl rfl rfl (by decide +kernel) ⟨Nat.le_of_ble_eq_true rfl, Nat.le_of_ble_eq_true rfl⟩) (pre_V hK hP hD 0 11 rfl rfl) rfl rfl hl.1 rfl (lv_room (Nat.le_of_ble_eq_true rfl)) dX11_seen_1 ⟨Nat.le_of_ble_eq_true rfl, Nat.le_of_ble_eq_true rfl⟩) hS hA hP (fun r_1 H locs hw hP hS => ?_)
  have h_1 : (r_1.toInt = -1 ∨ IsSeen f1 r_1.toInt) := hw
  refine lv_istore_n (lv' := [(2, .int r_1), (0, .ref mm), (1, .int a)]) hx hb dX11_seen_4 rfl hl (by decide) rfl (fun ls hl => ?_)
  refine lv_iload_n hx hb dX11_seen_5 rfl (lv_at hl 2 rfl) ?_
  refine a_if_ne (u := a.toInt) (tgt := 24) hx hb dX11_seen_6 (by decide) (rfl) (fun c_2 => ?_) (fun c_2 => ?_)
  · refine lv_iload_n hx hb dX11_seen_24 rfl (lv_at hl 0 rfl) ?_
    refine a_if_lt (u := r_1.toInt) (tgt := 46) hx hb dX11_seen_25 (by decide) (rfl) (fun c_3 => ?_) (fun c_3 => ?_)
    · refine lv_iconst (v := (-1)) hx hb dX11_seen_46 (by decide) ?_
      have hz_4 : (-1 : Int32).toInt = (-1) := by decide
      exact rp_iret hx hb hr hlocks hS (trivial) hQ dX11_seen_47
    · have hq := h_1.resolve_left (by omega)
      obtain ⟨hs1, hs2, hs3, hs4, hs5⟩ := hq
      refine lv_iload_n hx hb dX11_seen_28 rfl (lv_at hl 2 rfl) ?_
      refine lv_bipush (v := 10) hx hb dX11_seen_29 (by decide) ?_
      refine lv_bipush (v := 9) hx hb dX11_seen_31 (by decide) ?_
      refine lv_aload_n hx hb dX11_seen_33 rfl (lv_at hl 1 rfl) ?_
      refine va_get (D := D) (ci := 11) (v := .ref (q 1)) (C := RX11) (T := TX11) (N := 47) hx hb hts (by decide +kernel) hown hK.1 hP 0 rfl rfl 2 (by decide) (hts (.fieldLink RX11 14 "JugglingHallModel" "seenRows" "[I") (by decide +kernel)) (fun _ h9 => h9) rfl dX11_seen_34 ?_
      refine lv_iload_n hx hb dX11_seen_37 rfl (lv_at hl 0 rfl) ?_
      refine a_iald (f := f1) (u := r_1.toInt) hx hb hK.1 hP 2 0 rfl rfl dX11_seen_38 (rfl) (by omega) (fun z_5 q_5 e_5 => ?_)
      refine a_iadd (u := 9) (v := z_5.toInt) hx hb dX11_seen_39 (by decide) (rfl) (by omega) (fun z_6 e_6 => ?_)
      have hz_7 : (10 : Int32).toInt = 10 := by decide
      refine roP (va_runS (As := [.int a, .int 10, .int z_6]) (rest := []) ⟨hx, hb, hml, hown, hts⟩ (k_isIn l D cI cR cM _  ) (va_cwS 3 hts gX11_seen_X11_isIn rfl rfl rfl (by decide +kernel) ⟨Nat.le_of_ble_eq_true rfl, Nat.le_of_ble_eq_true rfl⟩) (pre_S hK va_P_nil (va_D_nil (A := fun _ => True))) rfl rfl hl.1 rfl (lv_room (Nat.le_of_ble_eq_true rfl)) dX11_seen_40 ⟨Nat.le_of_ble_eq_true rfl, Nat.le_of_ble_eq_true rfl⟩) hS hA hP (fun r_8 H locs hw hP hS => ?_)
      have h_8 : ((r_8.toInt = 1 ∧ (10 : Int32).toInt ≤ a.toInt ∧ a.toInt ≤ z_6.toInt) ∨ (r_8.toInt = 0 ∧ (a.toInt < (10 : Int32).toInt ∨ z_6.toInt < a.toInt))) := hw
      refine a_if_ne (u := r_8.toInt) (tgt := 48) hx hb dX11_seen_43 (by decide) (rfl) (fun c_9 => ?_) (fun c_9 => ?_)
      · refine lv_aload_n hx hb dX11_seen_48 rfl (lv_at hl 1 rfl) ?_
        refine va_get (D := D) (ci := 11) (v := .ref (q 1)) (C := RX11) (T := TX11) (N := 47) hx hb hts (by decide +kernel) hown hK.1 hP 0 rfl rfl 2 (by decide) (hts (.fieldLink RX11 14 "JugglingHallModel" "seenRows" "[I") (by decide +kernel)) (fun _ h9 => h9) rfl dX11_seen_49 ?_
        refine lv_iload_n hx hb dX11_seen_52 rfl (lv_at hl 0 rfl) ?_
        refine lv_iload_n hx hb dX11_seen_53 rfl (lv_at hl 2 rfl) ?_
        refine a_iadd (u := r_1.toInt) (v := a.toInt) hx hb dX11_seen_54 (rfl) (rfl) (by omega) (fun z_10 e_10 => ?_)
        refine lv_bipush (v := 9) hx hb dX11_seen_55 (by decide) ?_
        refine a_isub (u := (r_1.toInt + a.toInt)) (v := 9) hx hb dX11_seen_57 (e_10) (by decide) (by omega) (fun z_11 e_11 => ?_)
        refine a_iald (f := f1) (u := ((r_1.toInt + a.toInt) - 9)) hx hb hK.1 hP 2 0 rfl rfl dX11_seen_58 (e_11) (by omega) (fun z_12 q_12 e_12 => ?_)
        refine lv_istore_n (lv' := [(3, .int z_12), (2, .int r_1), (0, .ref mm), (1, .int a)]) hx hb dX11_seen_59 rfl hl (by decide) rfl (fun ls hl => ?_)
        refine lv_iload_n hx hb dX11_seen_60 rfl (lv_at hl 0 rfl) ?_
        refine lv_bipush (v := 10) hx hb dX11_seen_61 (by decide) ?_
        refine a_icmp_ne (u := z_12.toInt) (v := 10) (tgt := 70) hx hb dX11_seen_63 (by decide) (rfl) (by decide) (fun c_13 => ?_) (fun c_13 => ?_)
        · refine lv_iload_n hx hb dX11_seen_70 rfl (lv_at hl 0 rfl) ?_
          exact rp_iret hx hb hr hlocks hS (trivial) hQ dX11_seen_71
        · refine lv_iconst (v := (-1)) hx hb dX11_seen_66 (by decide) ?_
          refine lv_goto (tgt := 71) hx hb dX11_seen_67 (by decide) ?_
          have hz_14 : (-1 : Int32).toInt = (-1) := by decide
          exact rp_iret hx hb hr hlocks hS (trivial) hQ dX11_seen_71
      · refine lv_iconst (v := (-1)) hx hb dX11_seen_46 (by decide) ?_
        have hz_15 : (-1 : Int32).toInt = (-1) := by decide
        exact rp_iret hx hb hr hlocks hS (trivial) hQ dX11_seen_47
  · refine lv_iload_n hx hb dX11_seen_9 rfl (lv_at hl 0 rfl) ?_
    refine a_if_ge (u := r_1.toInt) (tgt := 17) hx hb dX11_seen_10 (by decide) (rfl) (fun c_16 => ?_) (fun c_16 => ?_)
    · have hq := h_1.resolve_left (by omega)
      obtain ⟨hs1, hs2, hs3, hs4, hs5⟩ := hq
      refine lv_aload_n hx hb dX11_seen_17 rfl (lv_at hl 1 rfl) ?_
      refine va_get (D := D) (ci := 11) (v := .ref (q 1)) (C := RX11) (T := TX11) (N := 47) hx hb hts (by decide +kernel) hown hK.1 hP 0 rfl rfl 2 (by decide) (hts (.fieldLink RX11 14 "JugglingHallModel" "seenRows" "[I") (by decide +kernel)) (fun _ h9 => h9) rfl dX11_seen_18 ?_
      refine lv_iload_n hx hb dX11_seen_21 rfl (lv_at hl 0 rfl) ?_
      refine a_iald (f := f1) (u := r_1.toInt) hx hb hK.1 hP 2 0 rfl rfl dX11_seen_22 (rfl) (by omega) (fun z_17 q_17 e_17 => ?_)
      exact rp_iret hx hb hr hlocks hS (trivial) hQ dX11_seen_23
    · refine lv_iconst (v := 0) hx hb dX11_seen_13 (by decide) ?_
      refine lv_goto (tgt := 23) hx hb dX11_seen_14 (by decide) ?_
      have hz_18 : (0 : Int32).toInt = 0 := by decide
      exact rp_iret hx hb hr hlocks hS (trivial) hQ dX11_seen_23
set_option maxRecDepth 100000 in
set_option maxHeartbeats 4000000 in
theorem k_about (l : Launch) (D : va_G) (cI cR cM : ClassId) (sz : Nat) {jn mm : Nat} {q : Nat → Nat} {x0 x1 x2 x3 x4 x5 x6 x7 x8 x9 x10 x11 x12 x13 x14 x15 x16 x17 x18 x19 x20 : Int32} {f0 f1 f2 f3 f4 f5 f6 f7 f8 f9 f10 f11 f12 f13 f14 f15 f16 f17 f18 f19 f20 f21 f22 f23 f24 : Nat → Int32} {a : Int32}  (hj : 1 ≤ jn ∧ jn ≤ 3) (h0 : 0 ≤ x0.toInt ∧ x0.toInt ≤ 60) (h1 : 0 ≤ x1.toInt ∧ x1.toInt ≤ 60) (hR : RowsX jn f0) : Met l yX11_about wsX11_about ({ frames := 3, cells := 0, slots := 0, locals := 65 }) (P0 D cI cR cM [.ref mm, .int a] sz (mX mm q jn cI x0 x1 x2 x3 x4 x5 x6 x7 x8 x9 x10 x11 x12 x13 x14 x15 x16 x17 x18 x19 x20 f0 f1 f2 f3 f4 f5 f6 f7 f8 f9 f10 f11 f12 f13 f14 f15 f16 f17 f18 f19 f20 f21 f22 f23 f24)) (QP (fun r => True) sz) 0 0 (va_A [] sz) := by
  refine go (cc := cX11_about) (maxL := 4) (ret := (some .int)) (by decide) rfl (Nat.le_of_ble_eq_true rfl) ?_
  intro p e s m below meth c ls args Q hQ hsz hx hb hr hml hts hown hlocks hnm hP hK hD hl
  subst hsz
  have hS : va_S (va_A [] s.heap.size) s.heap s.heap [] := va_S.rf
  have hA : ∀ q, s.heap.size ≤ q → va_A [] s.heap.size q := fun q h => Or.inr h
  have hl : lv_has ls 4 [(0, .ref mm), (1, .int a)] := hl
  refine lv_iconst (v := 0) hx hb dX11_about_0 (by decide) ?_
  refine lv_istore_n (lv' := [(2, .int 0), (0, .ref mm), (1, .int a)]) hx hb dX11_about_1 rfl hl (by decide) rfl (fun ls hl => ?_)
  refine lv_iload_n hx hb dX11_about_2 rfl (lv_at hl 2 rfl) ?_
  have hu_1 : a.toInt = a.toInt := rfl
  rcases (show (a.toInt < 0 ∨ 5 < a.toInt) ∨ (a.toInt = 0) ∨ (a.toInt = 1) ∨ (a.toInt = 2) ∨ (a.toInt = 3) ∨ (a.toInt = 4) ∨ (a.toInt = 5) by omega) with c_1 | c_1 | c_1 | c_1 | c_1 | c_1 | c_1
  · refine lv_tableOut (tgt := 97) hx hb dX11_about_3 (by omega) (by decide) ?_
    refine lv_iconst (v := (-1)) hx hb dX11_about_97 (by decide) ?_
    have hz_2 : (-1 : Int32).toInt = (-1) := by decide
    exact rp_iret hx hb hr hlocks hS (trivial) hQ dX11_about_98
  · refine lv_tableIn (off := 37) (tgt := 40) hx hb dX11_about_3 (by omega) (by omega) (by rw [show (a.toInt - 0).toNat = 0 by omega]; rfl) (by decide) ?_
    refine lv_aload_n hx hb dX11_about_40 rfl (lv_at hl 1 rfl) ?_
    refine va_get (D := D) (ci := 11) (v := .int (nI jn)) (C := RX11) (T := TX11) (N := 47) hx hb hts (by decide +kernel) hown hK.1 hP 0 rfl rfl 0 (by decide) (hts (.fieldLink RX11 93 "JugglingHallModel" "jugglers" "I") (by decide +kernel)) (fun _ h9 => h9) rfl dX11_about_41 ?_
    have hz_3 : (nI jn).toInt = (jn : Int) := nI_toInt (by omega)
    exact rp_iret hx hb hr hlocks hS (trivial) hQ dX11_about_44
  · refine lv_tableIn (off := 42) (tgt := 45) hx hb dX11_about_3 (by omega) (by omega) (by rw [show (a.toInt - 0).toNat = 1 by omega]; rfl) (by decide) ?_
    refine lv_aload_n hx hb dX11_about_45 rfl (lv_at hl 1 rfl) ?_
    refine va_get (D := D) (ci := 11) (v := .int x0) (C := RX11) (T := TX11) (N := 47) hx hb hts (by decide +kernel) hown hK.1 hP 0 rfl rfl 3 (by decide) (hts (.fieldLink RX11 185 "JugglingHallModel" "time" "I") (by decide +kernel)) (fun _ h9 => h9) rfl dX11_about_46 ?_
    exact rp_iret hx hb hr hlocks hS (trivial) hQ dX11_about_49
  · refine lv_tableIn (off := 47) (tgt := 50) hx hb dX11_about_3 (by omega) (by omega) (by rw [show (a.toInt - 0).toNat = 2 by omega]; rfl) (by decide) ?_
    refine lv_aload_n hx hb dX11_about_50 rfl (lv_at hl 1 rfl) ?_
    refine va_get (D := D) (ci := 11) (v := .int x1) (C := RX11) (T := TX11) (N := 47) hx hb hts (by decide +kernel) hown hK.1 hP 0 rfl rfl 4 (by decide) (hts (.fieldLink RX11 104 "JugglingHallModel" "looked" "I") (by decide +kernel)) (fun _ h9 => h9) rfl dX11_about_51 ?_
    exact rp_iret hx hb hr hlocks hS (trivial) hQ dX11_about_54
  · refine lv_tableIn (off := 52) (tgt := 55) hx hb dX11_about_3 (by omega) (by omega) (by rw [show (a.toInt - 0).toNat = 3 by omega]; rfl) (by decide) ?_
    refine lv_aload_n hx hb dX11_about_55 rfl (lv_at hl 1 rfl) ?_
    refine va_get (D := D) (ci := 11) (v := .int x2) (C := RX11) (T := TX11) (N := 47) hx hb hts (by decide +kernel) hown hK.1 hP 0 rfl rfl 6 (by decide) (hts (.fieldLink RX11 110 "JugglingHallModel" "taped" "I") (by decide +kernel)) (fun _ h9 => h9) rfl dX11_about_56 ?_
    exact rp_iret hx hb hr hlocks hS (trivial) hQ dX11_about_59
  · refine lv_tableIn (off := 57) (tgt := 60) hx hb dX11_about_3 (by omega) (by omega) (by rw [show (a.toInt - 0).toNat = 4 by omega]; rfl) (by decide) ?_
    refine lv_aload_n hx hb dX11_about_60 rfl (lv_at hl 1 rfl) ?_
    refine va_get (D := D) (ci := 11) (v := .int x18) (C := RX11) (T := TX11) (N := 47) hx hb hts (by decide +kernel) hown hK.1 hP 0 rfl rfl 42 (by decide) (hts (.fieldLink RX11 310 "JugglingHallModel" "scored" "I") (by decide +kernel)) (fun _ h9 => h9) rfl dX11_about_61 ?_
    exact rp_iret hx hb hr hlocks hS (trivial) hQ dX11_about_64
  · refine lv_tableIn (off := 62) (tgt := 65) hx hb dX11_about_3 (by omega) (by omega) (by rw [show (a.toInt - 0).toNat = 5 by omega]; rfl) (by decide) ?_
    refine lv_iconst (v := 0) hx hb dX11_about_65 (by decide) ?_
    refine lv_istore_n (lv' := [(3, .int 0), (2, .int 0), (0, .ref mm), (1, .int a)]) hx hb dX11_about_66 rfl hl (by decide) rfl (fun ls hl => ?_)
    have loop67 : ∀ (ddloop67 : Nat) (n2 : Int32) (k : Int32) (H : Heap) (locs : List Loc) (ls : Array Slot), (10 - k.toInt).toNat < ddloop67 → (0 ≤ k.toInt ∧ k.toInt ≤ 8 ∧ 0 ≤ n2.toInt ∧ n2.toInt ≤ k.toInt) → va_P D vwCl (mX mm q jn cI x0 x1 x2 x3 x4 x5 x6 x7 x8 x9 x10 x11 x12 x13 x14 x15 x16 x17 x18 x19 x20 f0 f1 f2 f3 f4 f5 f6 f7 f8 f9 f10 f11 f12 f13 f14 f15 f16 f17 f18 f19 f20 f21 f22 f23 f24) H → va_S (va_A [] s.heap.size) s.heap H locs → lv_has ls 4 [(0, .ref mm), (1, .int a), (2, .int n2), (3, .int k)] → W p l e ({ frames := 3, cells := 0, slots := 0, locals := 65 }) s m args below meth c H locs 0 0 Q (F0 m 67 ls []) := by
      intro ddloop67
      induction ddloop67 with
      | zero =>
        intro n2 k H locs ls hdd
        exact absurd hdd (Nat.not_lt_zero _)
      | succ ddloop67 ih67 =>
        intro n2 k H locs ls hdd hi hP hS hl
        refine lv_iload_n hx hb dX11_about_67 rfl (lv_at hl 3 rfl) ?_
        refine lv_bipush (v := 8) hx hb dX11_about_68 (by decide) ?_
        refine a_icmp_ge (u := k.toInt) (v := 8) (tgt := 95) hx hb dX11_about_70 (by decide) (rfl) (by decide) (fun c_4 => ?_) (fun c_4 => ?_)
        · refine lv_iload_n hx hb dX11_about_95 rfl (lv_at hl 2 rfl) ?_
          exact rp_iret hx hb hr hlocks hS (trivial) hQ dX11_about_96
        · refine lv_iload_n hx hb dX11_about_73 rfl (lv_at hl 2 rfl) ?_
          refine lv_aload_n hx hb dX11_about_74 rfl (lv_at hl 0 rfl) ?_
          refine lv_iload_n hx hb dX11_about_75 rfl (lv_at hl 3 rfl) ?_
          refine roP (va_runV (As := [.int k]) (rest := [.int n2]) ⟨hx, hb, hml, hown, hts⟩ (k_rowOf l D cI cR cM _  (by first | assumption | omega) (by first | assumption | omega)) (cwV 1 hts gX11_about_X11_rowOf rfl rfl rfl (by decide +kernel) ⟨Nat.le_of_ble_eq_true rfl, Nat.le_of_ble_eq_true rfl⟩) (pre_V hK hP hD 0 11 rfl rfl) rfl rfl hl.1 rfl (lv_room (Nat.le_of_ble_eq_true rfl)) dX11_about_76 ⟨Nat.le_of_ble_eq_true rfl, Nat.le_of_ble_eq_true rfl⟩) hS hA hP (fun r_5 H locs hw hP hS => ?_)
          have h_5 : (r_5.toInt = -1 ∨ IsRow jn f0 r_5.toInt) := hw
          refine a_if_lt (u := r_5.toInt) (tgt := 86) hx hb dX11_about_79 (by decide) (rfl) (fun c_6 => ?_) (fun c_6 => ?_)
          · refine lv_iconst (v := 0) hx hb dX11_about_86 (by decide) ?_
            refine a_iadd (u := n2.toInt) (v := 0) hx hb dX11_about_87 (rfl) (by decide) (by omega) (fun z_7 e_7 => ?_)
            refine lv_istore_n (lv' := [(2, .int z_7), (0, .ref mm), (1, .int a), (3, .int k)]) hx hb dX11_about_88 rfl hl (by decide) rfl (fun ls hl => ?_)
            obtain ⟨z_8, q_8, e_8⟩ := i_inc (a := k.toInt) (1) (rfl) (by decide) (by omega) (by omega)
            refine lv_iinc (v := z_8) (lv' := [(3, .int z_8), (2, .int z_7), (0, .ref mm), (1, .int a)]) hx hb dX11_about_89 hl (k := 3) rfl q_8 (by decide) rfl (fun ls hl => ?_)
            refine lv_goto (tgt := 67) hx hb dX11_about_92 (by decide) ?_
            exact ih67 z_7 z_8 _ _ _ (by omega) (by first | assumption | omega) hP hS (lv_sub hl [2, 3, 1, 0] rfl)
          · refine lv_iconst (v := 1) hx hb dX11_about_82 (by decide) ?_
            refine lv_goto (tgt := 87) hx hb dX11_about_83 (by decide) ?_
            refine a_iadd (u := n2.toInt) (v := 1) hx hb dX11_about_87 (rfl) (by decide) (by omega) (fun z_9 e_9 => ?_)
            refine lv_istore_n (lv' := [(2, .int z_9), (0, .ref mm), (1, .int a), (3, .int k)]) hx hb dX11_about_88 rfl hl (by decide) rfl (fun ls hl => ?_)
            obtain ⟨z_10, q_10, e_10⟩ := i_inc (a := k.toInt) (1) (rfl) (by decide) (by omega) (by omega)
            refine lv_iinc (v := z_10) (lv' := [(3, .int z_10), (2, .int z_9), (0, .ref mm), (1, .int a)]) hx hb dX11_about_89 hl (k := 3) rfl q_10 (by decide) rfl (fun ls hl => ?_)
            refine lv_goto (tgt := 67) hx hb dX11_about_92 (by decide) ?_
            exact ih67 z_9 z_10 _ _ _ (by omega) (by first | assumption | omega) hP hS (lv_sub hl [2, 3, 1, 0] rfl)
    have hz_11 : (0 : Int32).toInt = 0 := by decide
    have hz_12 : (0 : Int32).toInt = 0 := by decide
    exact loop67 ((10 - (0 : Int32).toInt).toNat + 1) (0 : Int32) (0 : Int32) _ _ _ (by omega) (by first | assumption | omega) hP hS (lv_sub hl [2, 3, 1, 0] rfl)
