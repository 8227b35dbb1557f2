theorem dX11_opens_0 : decode cX11_opens 0 = .ok (.aload_n 0, 1) := by decide +kernel
theorem dX11_opens_1 : decode cX11_opens 1 = .ok (.getfield 131, 3) := by decide +kernel
theorem dX11_opens_4 : decode cX11_opens 4 = .ok (.bipush 40, 2) := by decide +kernel
theorem dX11_opens_6 : decode cX11_opens 6 = .ok (.if_icmp .ne 7, 3) := by decide +kernel
theorem dX11_opens_9 : decode cX11_opens 9 = .ok (.iconst 0, 1) := by decide +kernel
theorem dX11_opens_10 : decode cX11_opens 10 = .ok (.goto 7, 3) := by decide +kernel
theorem dX11_opens_13 : decode cX11_opens 13 = .ok (.aload_n 0, 1) := by decide +kernel
theorem dX11_opens_14 : decode cX11_opens 14 = .ok (.getfield 131, 3) := by decide +kernel
theorem dX11_opens_17 : decode cX11_opens 17 = .ok (.istore_n 1, 1) := by decide +kernel
theorem dX11_opens_18 : decode cX11_opens 18 = .ok (.iload_n 1, 1) := by decide +kernel
theorem dX11_opens_19 : decode cX11_opens 19 = .ok (.ifCond .le 7, 3) := by decide +kernel
theorem dX11_opens_22 : decode cX11_opens 22 = .ok (.aload_n 0, 1) := by decide +kernel
theorem dX11_opens_23 : decode cX11_opens 23 = .ok (.invokevirtual 163, 3) := by decide +kernel
theorem dX11_opens_26 : decode cX11_opens 26 = .ok (.iconst 0, 1) := by decide +kernel
theorem dX11_opens_27 : decode cX11_opens 27 = .ok (.istore_n 2, 1) := by decide +kernel
theorem dX11_opens_28 : decode cX11_opens 28 = .ok (.iload_n 1, 1) := by decide +kernel
theorem dX11_opens_29 : decode cX11_opens 29 = .ok (.bipush 10, 2) := by decide +kernel
theorem dX11_opens_31 : decode cX11_opens 31 = .ok (.if_icmp .ne 30, 3) := by decide +kernel
theorem dX11_opens_34 : decode cX11_opens 34 = .ok (.aload_n 0, 1) := by decide +kernel
theorem dX11_opens_35 : decode cX11_opens 35 = .ok (.getfield 131, 3) := by decide +kernel
theorem dX11_opens_38 : decode cX11_opens 38 = .ok (.iconst 1, 1) := by decide +kernel
theorem dX11_opens_39 : decode cX11_opens 39 = .ok (.if_icmp .eq 13, 3) := by decide +kernel
theorem dX11_opens_42 : decode cX11_opens 42 = .ok (.aload_n 0, 1) := by decide +kernel
theorem dX11_opens_43 : decode cX11_opens 43 = .ok (.iconst 1, 1) := by decide +kernel
theorem dX11_opens_44 : decode cX11_opens 44 = .ok (.aload_n 0, 1) := by decide +kernel
theorem dX11_opens_45 : decode cX11_opens 45 = .ok (.getfield 120, 3) := by decide +kernel
theorem dX11_opens_48 : decode cX11_opens 48 = .ok (.invokevirtual 157, 3) := by decide +kernel
theorem dX11_opens_51 : decode cX11_opens 51 = .ok (.ireturn, 1) := by decide +kernel
theorem dX11_opens_52 : decode cX11_opens 52 = .ok (.aload_n 0, 1) := by decide +kernel
theorem dX11_opens_53 : decode cX11_opens 53 = .ok (.getfield 138, 3) := by decide +kernel
theorem dX11_opens_56 : decode cX11_opens 56 = .ok (.istore_n 2, 1) := by decide +kernel
theorem dX11_opens_57 : decode cX11_opens 57 = .ok (.aload_n 0, 1) := by decide +kernel
theorem dX11_opens_58 : decode cX11_opens 58 = .ok (.invokevirtual 163, 3) := by decide +kernel
theorem dX11_opens_61 : decode cX11_opens 61 = .ok (.aload_n 0, 1) := by decide +kernel
theorem dX11_opens_62 : decode cX11_opens 62 = .ok (.getfield 131, 3) := by decide +kernel
theorem dX11_opens_65 : decode cX11_opens 65 = .ok (.bipush 40, 2) := by decide +kernel
theorem dX11_opens_67 : decode cX11_opens 67 = .ok (.if_icmp .eq 13, 3) := by decide +kernel
theorem dX11_opens_70 : decode cX11_opens 70 = .ok (.aload_n 0, 1) := by decide +kernel
theorem dX11_opens_71 : decode cX11_opens 71 = .ok (.iconst 1, 1) := by decide +kernel
theorem dX11_opens_72 : decode cX11_opens 72 = .ok (.aload_n 0, 1) := by decide +kernel
theorem dX11_opens_73 : decode cX11_opens 73 = .ok (.getfield 120, 3) := by decide +kernel
theorem dX11_opens_76 : decode cX11_opens 76 = .ok (.invokevirtual 157, 3) := by decide +kernel
theorem dX11_opens_79 : decode cX11_opens 79 = .ok (.ireturn, 1) := by decide +kernel
theorem dX11_opens_80 : decode cX11_opens 80 = .ok (.aload_n 0, 1) := by decide +kernel
theorem dX11_opens_81 : decode cX11_opens 81 = .ok (.getfield 154, 3) := by decide +kernel
theorem dX11_opens_84 : decode cX11_opens 84 = .ok (.iconst 5, 1) := by decide +kernel
theorem dX11_opens_85 : decode cX11_opens 85 = .ok (.if_icmp .ne 13, 3) := by decide +kernel
theorem dX11_opens_88 : decode cX11_opens 88 = .ok (.aload_n 0, 1) := by decide +kernel
theorem dX11_opens_89 : decode cX11_opens 89 = .ok (.iconst 3, 1) := by decide +kernel
theorem dX11_opens_90 : decode cX11_opens 90 = .ok (.aload_n 0, 1) := by decide +kernel
theorem dX11_opens_91 : decode cX11_opens 91 = .ok (.getfield 120, 3) := by decide +kernel
theorem dX11_opens_94 : decode cX11_opens 94 = .ok (.invokevirtual 157, 3) := by decide +kernel
theorem dX11_opens_97 : decode cX11_opens 97 = .ok (.ireturn, 1) := by decide +kernel
theorem dX11_opens_98 : decode cX11_opens 98 = .ok (.aload_n 0, 1) := by decide +kernel
theorem dX11_opens_99 : decode cX11_opens 99 = .ok (.getfield 30, 3) := by decide +kernel
theorem dX11_opens_102 : decode cX11_opens 102 = .ok (.aload_n 0, 1) := by decide +kernel
theorem dX11_opens_103 : decode cX11_opens 103 = .ok (.getfield 154, 3) := by decide +kernel
theorem dX11_opens_106 : decode cX11_opens 106 = .ok (.iload_n 1, 1) := by decide +kernel
theorem dX11_opens_107 : decode cX11_opens 107 = .ok (.iastore, 1) := by decide +kernel
theorem dX11_opens_108 : decode cX11_opens 108 = .ok (.aload_n 0, 1) := by decide +kernel
theorem dX11_opens_109 : decode cX11_opens 109 = .ok (.getfield 33, 3) := by decide +kernel
theorem dX11_opens_112 : decode cX11_opens 112 = .ok (.aload_n 0, 1) := by decide +kernel
theorem dX11_opens_113 : decode cX11_opens 113 = .ok (.getfield 154, 3) := by decide +kernel
theorem dX11_opens_116 : decode cX11_opens 116 = .ok (.iload_n 2, 1) := by decide +kernel
theorem dX11_opens_117 : decode cX11_opens 117 = .ok (.iastore, 1) := by decide +kernel
theorem dX11_opens_118 : decode cX11_opens 118 = .ok (.aload_n 0, 1) := by decide +kernel
theorem dX11_opens_119 : decode cX11_opens 119 = .ok (.dup, 1) := by decide +kernel
theorem dX11_opens_120 : decode cX11_opens 120 = .ok (.getfield 154, 3) := by decide +kernel
theorem dX11_opens_123 : decode cX11_opens 123 = .ok (.iconst 1, 1) := by decide +kernel
theorem dX11_opens_124 : decode cX11_opens 124 = .ok (.iadd, 1) := by decide +kernel
theorem dX11_opens_125 : decode cX11_opens 125 = .ok (.putfield 154, 3) := by decide +kernel
theorem dX11_opens_128 : decode cX11_opens 128 = .ok (.aload_n 0, 1) := by decide +kernel
theorem dX11_opens_129 : decode cX11_opens 129 = .ok (.getfield 36, 3) := by decide +kernel
theorem dX11_opens_132 : decode cX11_opens 132 = .ok (.aload_n 0, 1) := by decide +kernel
theorem dX11_opens_133 : decode cX11_opens 133 = .ok (.getfield 154, 3) := by decide +kernel
theorem dX11_opens_136 : decode cX11_opens 136 = .ok (.aload_n 0, 1) := by decide +kernel
theorem dX11_opens_137 : decode cX11_opens 137 = .ok (.getfield 151, 3) := by decide +kernel
theorem dX11_opens_140 : decode cX11_opens 140 = .ok (.iastore, 1) := by decide +kernel
theorem dX11_opens_141 : decode cX11_opens 141 = .ok (.aload_n 0, 1) := by decide +kernel
theorem dX11_opens_142 : decode cX11_opens 142 = .ok (.invokevirtual 163, 3) := by decide +kernel
theorem dX11_opens_145 : decode cX11_opens 145 = .ok (.iconst 0, 1) := by decide +kernel
theorem dX11_opens_146 : decode cX11_opens 146 = .ok (.ireturn, 1) := by decide +kernel
theorem dX11_isPlain_0 : decode cX11_isPlain 0 = .ok (.iconst 0, 1) := by decide +kernel
theorem dX11_isPlain_1 : decode cX11_isPlain 1 = .ok (.istore_n 3, 1) := by decide +kernel
theorem dX11_isPlain_2 : decode cX11_isPlain 2 = .ok (.iload_n 3, 1) := by decide +kernel
theorem dX11_isPlain_3 : decode cX11_isPlain 3 = .ok (.iload_n 2, 1) := by decide +kernel
theorem dX11_isPlain_4 : decode cX11_isPlain 4 = .ok (.if_icmp .ge 27, 3) := by decide +kernel
theorem dX11_isPlain_7 : decode cX11_isPlain 7 = .ok (.aload_n 0, 1) := by decide +kernel
theorem dX11_isPlain_8 : decode cX11_isPlain 8 = .ok (.getfield 27, 3) := by decide +kernel
theorem dX11_isPlain_11 : decode cX11_isPlain 11 = .ok (.bipush 6, 2) := by decide +kernel
theorem dX11_isPlain_13 : decode cX11_isPlain 13 = .ok (.iload_n 1, 1) := by decide +kernel
theorem dX11_isPlain_14 : decode cX11_isPlain 14 = .ok (.iload_n 3, 1) := by decide +kernel
theorem dX11_isPlain_15 : decode cX11_isPlain 15 = .ok (.iadd, 1) := by decide +kernel
theorem dX11_isPlain_16 : decode cX11_isPlain 16 = .ok (.imul, 1) := by decide +kernel
theorem dX11_isPlain_17 : decode cX11_isPlain 17 = .ok (.iconst 1, 1) := by decide +kernel
theorem dX11_isPlain_18 : decode cX11_isPlain 18 = .ok (.iadd, 1) := by decide +kernel
theorem dX11_isPlain_19 : decode cX11_isPlain 19 = .ok (.iaload, 1) := by decide +kernel
theorem dX11_isPlain_20 : decode cX11_isPlain 20 = .ok (.ifCond .le 5, 3) := by decide +kernel
theorem dX11_isPlain_23 : decode cX11_isPlain 23 = .ok (.iconst 0, 1) := by decide +kernel
theorem dX11_isPlain_24 : decode cX11_isPlain 24 = .ok (.ireturn, 1) := by decide +kernel
theorem dX11_isPlain_25 : decode cX11_isPlain 25 = .ok (.iinc 3 1, 3) := by decide +kernel
theorem dX11_isPlain_28 : decode cX11_isPlain 28 = .ok (.goto (-26), 3) := by decide +kernel
theorem dX11_isPlain_31 : decode cX11_isPlain 31 = .ok (.aload_n 0, 1) := by decide +kernel
theorem dX11_isPlain_32 : decode cX11_isPlain 32 = .ok (.getfield 93, 3) := by decide +kernel
theorem dX11_isPlain_35 : decode cX11_isPlain 35 = .ok (.iconst 1, 1) := by decide +kernel
theorem dX11_isPlain_36 : decode cX11_isPlain 36 = .ok (.if_icmp .ne 7, 3) := by decide +kernel
theorem dX11_isPlain_39 : decode cX11_isPlain 39 = .ok (.iconst 1, 1) := by decide +kernel
theorem dX11_isPlain_40 : decode cX11_isPlain 40 = .ok (.goto 4, 3) := by decide +kernel
theorem dX11_isPlain_43 : decode cX11_isPlain 43 = .ok (.iconst 0, 1) := by decide +kernel
theorem dX11_isPlain_44 : decode cX11_isPlain 44 = .ok (.ireturn, 1) := by decide +kernel
theorem dX11_begins_0 : decode cX11_begins 0 = .ok (.aload_n 0, 1) := by decide +kernel
theorem dX11_begins_1 : decode cX11_begins 1 = .ok (.getfield 131, 3) := by decide +kernel
theorem dX11_begins_4 : decode cX11_begins 4 = .ok (.iconst 1, 1) := by decide +kernel
theorem dX11_begins_5 : decode cX11_begins 5 = .ok (.if_icmp .eq 52, 3) := by decide +kernel
theorem dX11_begins_8 : decode cX11_begins 8 = .ok (.aload_n 0, 1) := by decide +kernel
theorem dX11_begins_9 : decode cX11_begins 9 = .ok (.getfield 131, 3) := by decide +kernel
theorem dX11_begins_12 : decode cX11_begins 12 = .ok (.iconst 2, 1) := by decide +kernel
theorem dX11_begins_13 : decode cX11_begins 13 = .ok (.if_icmp .eq 44, 3) := by decide +kernel
theorem dX11_begins_16 : decode cX11_begins 16 = .ok (.aload_n 0, 1) := by decide +kernel
theorem dX11_begins_17 : decode cX11_begins 17 = .ok (.getfield 131, 3) := by decide +kernel
theorem dX11_begins_20 : decode cX11_begins 20 = .ok (.bipush 91, 2) := by decide +kernel
theorem dX11_begins_22 : decode cX11_begins 22 = .ok (.if_icmp .eq 35, 3) := by decide +kernel
theorem dX11_begins_25 : decode cX11_begins 25 = .ok (.aload_n 0, 1) := by decide +kernel
theorem dX11_begins_26 : decode cX11_begins 26 = .ok (.getfield 131, 3) := by decide +kernel
theorem dX11_begins_29 : decode cX11_begins 29 = .ok (.bipush 60, 2) := by decide +kernel
theorem dX11_begins_31 : decode cX11_begins 31 = .ok (.if_icmp .eq 26, 3) := by decide +kernel
theorem dX11_begins_34 : decode cX11_begins 34 = .ok (.aload_n 0, 1) := by decide +kernel
theorem dX11_begins_35 : decode cX11_begins 35 = .ok (.getfield 131, 3) := by decide +kernel
theorem dX11_begins_38 : decode cX11_begins 38 = .ok (.bipush 40, 2) := by decide +kernel
theorem dX11_begins_40 : decode cX11_begins 40 = .ok (.if_icmp .eq 17, 3) := by decide +kernel
theorem dX11_begins_43 : decode cX11_begins 43 = .ok (.aload_n 0, 1) := by decide +kernel
theorem dX11_begins_44 : decode cX11_begins 44 = .ok (.getfield 131, 3) := by decide +kernel
theorem dX11_begins_47 : decode cX11_begins 47 = .ok (.bipush 7, 2) := by decide +kernel
theorem dX11_begins_49 : decode cX11_begins 49 = .ok (.bipush 10, 2) := by decide +kernel
theorem dX11_begins_51 : decode cX11_begins 51 = .ok (.invokestatic 100, 3) := by decide +kernel
theorem dX11_begins_54 : decode cX11_begins 54 = .ok (.ifCond .eq 7, 3) := by decide +kernel
theorem dX11_begins_57 : decode cX11_begins 57 = .ok (.iconst 1, 1) := by decide +kernel
theorem dX11_begins_58 : decode cX11_begins 58 = .ok (.goto 4, 3) := by decide +kernel
theorem dX11_begins_61 : decode cX11_begins 61 = .ok (.iconst 0, 1) := by decide +kernel
theorem dX11_begins_62 : decode cX11_begins 62 = .ok (.ireturn, 1) := by decide +kernel
set_option maxRecDepth 100000 in
set_option maxHeartbeats 4000000 in
theorem ggX11_opens_X11_nextToken : GoodIn wsX11_opens wsX11_nextToken := goodIn_r _ [13, 14, 2, 1, 3, 15, 16, 17, 12, 18, 19, 20, 21, 22, 23, 24, 25, 26, 27, 28, 29, 30, 31, 32, 33, 34, 35, 36, 37, 43, 44, 45, 46, 47, 48, 49, 50, 51, 52, 53, 54, 55, 56, 57, 58, 59, 60, 61, 62, 63, 64, 65, 66, 67, 68, 69, 70, 71, 72, 73, 74, 75, 76, 77, 78, 79, 80, 81, 82, 83, 84, 85, 86, 87, 88, 89] (by with_unfolding_all rfl) (by decide +kernel)
set_option maxRecDepth 20000 in
theorem gX11_opens_X11_nextToken : GoodIn wsX11_opens (wsV RX11 163 RX11 yX11_nextToken wsX11_nextToken) := goodIn_app (goodIn_of _ (by decide +kernel)) ggX11_opens_X11_nextToken
set_option maxRecDepth 20000 in
theorem ggX11_opens_X11_fails : GoodIn wsX11_opens wsX11_fails := goodIn_r _ [41, 42, 43, 44, 45, 46, 47, 48, 49, 50, 51, 52, 53, 54, 55, 56, 57, 58, 59, 60, 61, 62, 63, 64, 65, 66, 67, 68, 69, 70, 71, 72, 73, 74, 75, 76, 77, 78, 79, 80, 81, 82, 83, 84, 85, 86, 87, 88, 89] (by decide +kernel) (by decide +kernel)
set_option maxRecDepth 20000 in
theorem gX11_opens_X11_fails : GoodIn wsX11_opens (wsV RX11 157 RX11 yX11_fails wsX11_fails) := goodIn_app (goodIn_of _ (by decide +kernel)) ggX11_opens_X11_fails
set_option maxRecDepth 20000 in
theorem ggX11_begins_X11_isIn : GoodIn wsX11_begins wsX11_isIn := goodIn_r _ [5] (by decide +kernel) (by decide +kernel)
set_option maxRecDepth 20000 in
theorem gX11_begins_X11_isIn : GoodIn wsX11_begins (va_wsS RX11 100 yX11_isIn wsX11_isIn) := goodIn_app (goodIn_of _ (by decide +kernel)) ggX11_begins_X11_isIn
set_option maxRecDepth 100000 in
set_option maxHeartbeats 4000000 in
theorem k_begins (l : Launch) (D : va_G) (cI cR cM : ClassId) (sz : Nat) {jn mm : Nat} {q : Nat → Nat} {x0 x1 x2 x3 x4 x5 x6 x7 x8 x9 x10 x11 x12 x13 x14 x15 x16 x17 x18 x19 x20 : Int32} {f0 f1 f2 f3 f4 f5 f6 f7 f8 f9 f10 f11 f12 f13 f14 f15 f16 f17 f18 f19 f20 f21 f22 f23 f24 : Nat → Int32}   : Met l yX11_begins wsX11_begins ({ frames := 1, cells := 0, slots := 0, locals := 22 }) (P0 D cI cR cM [.ref mm] sz (mX mm q jn cI x0 x1 x2 x3 x4 x5 x6 x7 x8 x9 x10 x11 x12 x13 x14 x15 x16 x17 x18 x19 x20 f0 f1 f2 f3 f4 f5 f6 f7 f8 f9 f10 f11 f12 f13 f14 f15 f16 f17 f18 f19 f20 f21 f22 f23 f24)) (QP (fun r => (r.toInt = 0 ∨ r.toInt = 1) ∧ (r.toInt = 1 → x7.toInt = 1 ∨ x7.toInt = 2 ∨ x7.toInt = 91 ∨ x7.toInt = 60 ∨ x7.toInt = 40 ∨ (7 ≤ x7.toInt ∧ x7.toInt ≤ 10))) sz) 0 0 (va_A [] sz) := by
  refine go (cc := cX11_begins) (maxL := 1) (ret := (some .boolean)) (by decide) rfl (Nat.le_of_ble_eq_true rfl) ?_
  intro p e s m below meth c ls args Q hQ hsz hx hb hr hml hts hown hlocks hnm hP hK hD hl
  subst hsz
  have hS : va_S (va_A [] s.heap.size) s.heap s.heap [] := va_S.rf
  have hA : ∀ q, s.heap.size ≤ q → va_A [] s.heap.size q := fun q h => Or.inr h
  have hl : lv_has ls 1 [(0, .ref mm)] := hl
  refine lv_aload_n hx hb dX11_begins_0 rfl (lv_at hl 0 rfl) ?_
  refine va_get (D := D) (ci := 11) (v := .int x7) (C := RX11) (T := TX11) (N := 47) hx hb hts (by decide +kernel) hown hK.1 hP 0 rfl rfl 11 (by decide) (hts (.fieldLink RX11 131 "JugglingHallModel" "token" "I") (by decide +kernel)) (fun _ h9 => h9) rfl dX11_begins_1 ?_
  refine lv_iconst (v := 1) hx hb dX11_begins_4 (by decide) ?_
  refine a_icmp_eq (u := x7.toInt) (v := 1) (tgt := 57) hx hb dX11_begins_5 (by decide) (rfl) (by decide) (fun c_1 => ?_) (fun c_1 => ?_)
  · refine lv_iconst (v := 1) hx hb dX11_begins_57 (by decide) ?_
    refine lv_goto (tgt := 62) hx hb dX11_begins_58 (by decide) ?_
    have hz_2 : (1 : Int32).toInt = 1 := by decide
    exact rp_zret hx hb hr hlocks hS (by first | exact Or.inl rfl | exact Or.inr rfl) (⟨show (1 : Int32).toInt = 0 ∨ (1 : Int32).toInt = 1 from (by first | assumption | omega), show (1 : Int32).toInt = 1 → x7.toInt = 1 ∨ x7.toInt = 2 ∨ x7.toInt = 91 ∨ x7.toInt = 60 ∨ x7.toInt = 40 ∨ (7 ≤ x7.toInt ∧ x7.toInt ≤ 10) from (by first | assumption | omega)⟩) hQ dX11_begins_62
  · refine lv_aload_n hx hb dX11_begins_8 rfl (lv_at hl 0 rfl) ?_
    refine va_get (D := D) (ci := 11) (v := .int x7) (C := RX11) (T := TX11) (N := 47) hx hb hts (by decide +kernel) hown hK.1 hP 0 rfl rfl 11 (by decide) (hts (.fieldLink RX11 131 "JugglingHallModel" "token" "I") (by decide +kernel)) (fun _ h9 => h9) rfl dX11_begins_9 ?_
    refine lv_iconst (v := 2) hx hb dX11_begins_12 (by decide) ?_
    refine a_icmp_eq (u := x7.toInt) (v := 2) (tgt := 57) hx hb dX11_begins_13 (by decide) (rfl) (by decide) (fun c_3 => ?_) (fun c_3 => ?_)
    · refine lv_iconst (v := 1) hx hb dX11_begins_57 (by decide) ?_
      refine lv_goto (tgt := 62) hx hb dX11_begins_58 (by decide) ?_
      have hz_4 : (1 : Int32).toInt = 1 := by decide
      exact rp_zret hx hb hr hlocks hS (by first | exact Or.inl rfl | exact Or.inr rfl) (⟨show (1 : Int32).toInt = 0 ∨ (1 : Int32).toInt = 1 from (by first | assumption | omega), show (1 : Int32).toInt = 1 → x7.toInt = 1 ∨ x7.toInt = 2 ∨ x7.toInt = 91 ∨ x7.toInt = 60 ∨ x7.toInt = 40 ∨ (7 ≤ x7.toInt ∧ x7.toInt ≤ 10) from (by first | assumption | omega)⟩) hQ dX11_begins_62
    · refine lv_aload_n hx hb dX11_begins_16 rfl (lv_at hl 0 rfl) ?_
      refine va_get (D := D) (ci := 11) (v := .int x7) (C := RX11) (T := TX11) (N := 47) hx hb hts (by decide +kernel) hown hK.1 hP 0 rfl rfl 11 (by decide) (hts (.fieldLink RX11 131 "JugglingHallModel" "token" "I") (by decide +kernel)) (fun _ h9 => h9) rfl dX11_begins_17 ?_
      refine lv_bipush (v := 91) hx hb dX11_begins_20 (by decide) ?_
      refine a_icmp_eq (u := x7.toInt) (v := 91) (tgt := 57) hx hb dX11_begins_22 (by decide) (rfl) (by decide) (fun c_5 => ?_) (fun c_5 => ?_)
      · refine lv_iconst (v := 1) hx hb dX11_begins_57 (by decide) ?_
        refine lv_goto (tgt := 62) hx hb dX11_begins_58 (by decide) ?_
        have hz_6 : (1 : Int32).toInt = 1 := by decide
        exact rp_zret hx hb hr hlocks hS (by first | exact Or.inl rfl | exact Or.inr rfl) (⟨show (1 : Int32).toInt = 0 ∨ (1 : Int32).toInt = 1 from (by first | assumption | omega), show (1 : Int32).toInt = 1 → x7.toInt = 1 ∨ x7.toInt = 2 ∨ x7.toInt = 91 ∨ x7.toInt = 60 ∨ x7.toInt = 40 ∨ (7 ≤ x7.toInt ∧ x7.toInt ≤ 10) from (by first | assumption | omega)⟩) hQ dX11_begins_62
      · refine lv_aload_n hx hb dX11_begins_25 rfl (lv_at hl 0 rfl) ?_
        refine va_get (D := D) (ci := 11) (v := .int x7) (C := RX11) (T := TX11) (N := 47) hx hb hts (by decide +kernel) hown hK.1 hP 0 rfl rfl 11 (by decide) (hts (.fieldLink RX11 131 "JugglingHallModel" "token" "I") (by decide +kernel)) (fun _ h9 => h9) rfl dX11_begins_26 ?_
        refine lv_bipush (v := 60) hx hb dX11_begins_29 (by decide) ?_
        refine a_icmp_eq (u := x7.toInt) (v := 60) (tgt := 57) hx hb dX11_begins_31 (by decide) (rfl) (by decide) (fun c_7 => ?_) (fun c_7 => ?_)
        · refine lv_iconst (v := 1) hx hb dX11_begins_57 (by decide) ?_
          refine lv_goto (tgt := 62) hx hb dX11_begins_58 (by decide) ?_
          have hz_8 : (1 : Int32).toInt = 1 := by decide
          exact rp_zret hx hb hr hlocks hS (by first | exact Or.inl rfl | exact Or.inr rfl) (⟨show (1 : Int32).toInt = 0 ∨ (1 : Int32).toInt = 1 from (by first | assumption | omega), show (1 : Int32).toInt = 1 → x7.toInt = 1 ∨ x7.toInt = 2 ∨ x7.toInt = 91 ∨ x7.toInt = 60 ∨ x7.toInt = 40 ∨ (7 ≤ x7.toInt ∧ x7.toInt ≤ 10) from (by first | assumption | omega)⟩) hQ dX11_begins_62
        · refine lv_aload_n hx hb dX11_begins_34 rfl (lv_at hl 0 rfl) ?_
          refine va_get (D := D) (ci := 11) (v := .int x7) (C := RX11) (T := TX11) (N := 47) hx hb hts (by decide +kernel) hown hK.1 hP 0 rfl rfl 11 (by decide) (hts (.fieldLink RX11 131 "JugglingHallModel" "token" "I") (by decide +kernel)) (fun _ h9 => h9) rfl dX11_begins_35 ?_
          refine lv_bipush (v := 40) hx hb dX11_begins_38 (by decide) ?_
          refine a_icmp_eq (u := x7.toInt) (v := 40) (tgt := 57) hx hb dX11_begins_40 (by decide) (rfl) (by decide) (fun c_9 => ?_) (fun c_9 => ?_)
          · refine lv_iconst (v := 1) hx hb dX11_begins_57 (by decide) ?_
            refine lv_goto (tgt := 62) hx hb dX11_begins_58 (by decide) ?_
            have hz_10 : (1 : Int32).toInt = 1 := by decide
            exact rp_zret hx hb hr hlocks hS (by first | exact Or.inl rfl | exact Or.inr rfl) (⟨show (1 : Int32).toInt = 0 ∨ (1 : Int32).toInt = 1 from (by first | assumption | omega), show (1 : Int32).toInt = 1 → x7.toInt = 1 ∨ x7.toInt = 2 ∨ x7.toInt = 91 ∨ x7.toInt = 60 ∨ x7.toInt = 40 ∨ (7 ≤ x7.toInt ∧ x7.toInt ≤ 10) from (by first | assumption | omega)⟩) hQ dX11_begins_62
          · refine lv_aload_n hx hb dX11_begins_43 rfl (lv_at hl 0 rfl) ?_
            refine va_get (D := D) (ci := 11) (v := .int x7) (C := RX11) (T := TX11) (N := 47) hx hb hts (by decide +kernel) hown hK.1 hP 0 rfl rfl 11 (by decide) (hts (.fieldLink RX11 131 "JugglingHallModel" "token" "I") (by decide +kernel)) (fun _ h9 => h9) rfl dX11_begins_44 ?_
            refine lv_bipush (v := 7) hx hb dX11_begins_47 (by decide) ?_
            refine lv_bipush (v := 10) hx hb dX11_begins_49 (by decide) ?_
            have hz_11 : (7 : Int32).toInt = 7 := by decide
            have hz_12 : (10 : Int32).toInt = 10 := by decide
            refine roP (va_runS (As := [.int x7, .int 7, .int 10]) (rest := []) ⟨hx, hb, hml, hown, hts⟩ (k_isIn l D cI cR cM _  ) (va_cwS 3 hts gX11_begins_X11_isIn rfl rfl rfl (by decide +kernel) ⟨Nat.le_of_ble_eq_true rfl, Nat.le_of_ble_eq_true rfl⟩) (pre_S hK va_P_nil (va_D_nil (A := fun _ => True))) rfl rfl hl.1 rfl (lv_room (Nat.le_of_ble_eq_true rfl)) dX11_begins_51 ⟨Nat.le_of_ble_eq_true rfl, Nat.le_of_ble_eq_true rfl⟩) hS hA hP (fun r_13 H locs hw hP hS => ?_)
            have h_13 : ((r_13.toInt = 1 ∧ (7 : Int32).toInt ≤ x7.toInt ∧ x7.toInt ≤ (10 : Int32).toInt) ∨ (r_13.toInt = 0 ∧ (x7.toInt < (7 : Int32).toInt ∨ (10 : Int32).toInt < x7.toInt))) := hw
            refine a_if_eq (u := r_13.toInt) (tgt := 61) hx hb dX11_begins_54 (by decide) (rfl) (fun c_14 => ?_) (fun c_14 => ?_)
            · refine lv_iconst (v := 0) hx hb dX11_begins_61 (by decide) ?_
              have hz_15 : (0 : Int32).toInt = 0 := by decide
              exact rp_zret hx hb hr hlocks hS (by first | exact Or.inl rfl | exact Or.inr rfl) (⟨show (0 : Int32).toInt = 0 ∨ (0 : Int32).toInt = 1 from (by first | assumption | omega), show (0 : Int32).toInt = 1 → x7.toInt = 1 ∨ x7.toInt = 2 ∨ x7.toInt = 91 ∨ x7.toInt = 60 ∨ x7.toInt = 40 ∨ (7 ≤ x7.toInt ∧ x7.toInt ≤ 10) from (by first | assumption | omega)⟩) hQ dX11_begins_62
            · refine lv_iconst (v := 1) hx hb dX11_begins_57 (by decide) ?_
              refine lv_goto (tgt := 62) hx hb dX11_begins_58 (by decide) ?_
              have hz_16 : (1 : Int32).toInt = 1 := by decide
              exact rp_zret hx hb hr hlocks hS (by first | exact Or.inl rfl | exact Or.inr rfl) (⟨show (1 : Int32).toInt = 0 ∨ (1 : Int32).toInt = 1 from (by first | assumption | omega), show (1 : Int32).toInt = 1 → x7.toInt = 1 ∨ x7.toInt = 2 ∨ x7.toInt = 91 ∨ x7.toInt = 60 ∨ x7.toInt = 40 ∨ (7 ≤ x7.toInt ∧ x7.toInt ≤ 10) from (by first | assumption | omega)⟩) hQ dX11_begins_62
set_option maxRecDepth 100000 in
set_option maxHeartbeats 4000000 in
theorem k_isPlain (l : Launch) (D : va_G) (cI cR cM : ClassId) (sz : Nat) {jn mm : Nat} {q : Nat → Nat} {x0 x1 x2 x3 x4 x5 x6 x7 x8 x9 x10 x11 x12 x13 x14 x15 x16 x17 x18 x19 x20 : Int32} {f0 f1 f2 f3 f4 f5 f6 f7 f8 f9 f10 f11 f12 f13 f14 f15 f16 f17 f18 f19 f20 f21 f22 f23 f24 : Nat → Int32} {from_ n : Int32}  (hj : 1 ≤ jn ∧ jn ≤ 3) (hf : 0 ≤ from_.toInt ∧ from_.toInt ≤ 150) (hn : 0 ≤ n.toInt ∧ n.toInt ≤ 24) : Met l yX11_isPlain wsX11_isPlain ({ frames := 0, cells := 0, slots := 0, locals := 0 }) (P0 D cI cR cM [.ref mm, .int from_, .int n] sz (mX mm q jn cI x0 x1 x2 x3 x4 x5 x6 x7 x8 x9 x10 x11 x12 x13 x14 x15 x16 x17 x18 x19 x20 f0 f1 f2 f3 f4 f5 f6 f7 f8 f9 f10 f11 f12 f13 f14 f15 f16 f17 f18 f19 f20 f21 f22 f23 f24)) (QP (fun r => (r.toInt = 0 ∨ r.toInt = 1)) sz) 0 0 (va_A [] sz) := by
  refine go (cc := cX11_isPlain) (maxL := 4) (ret := (some .boolean)) (by decide) rfl (Nat.le_of_ble_eq_true rfl) ?_
  intro p e s m below meth c ls args Q hQ hsz hx hb hr hml hts hown hlocks hnm hP hK hD hl
  subst hsz
  have hS : va_S (va_A [] s.heap.size) s.heap s.heap [] := va_S.rf
  have hA : ∀ q, s.heap.size ≤ q → va_A [] s.heap.size q := fun q h => Or.inr h
  have hl : lv_has ls 4 [(0, .ref mm), (1, .int from_), (2, .int n)] := hl
  refine lv_iconst (v := 0) hx hb dX11_isPlain_0 (by decide) ?_
  refine lv_istore_n (lv' := [(3, .int 0), (0, .ref mm), (1, .int from_), (2, .int n)]) hx hb dX11_isPlain_1 rfl hl (by decide) rfl (fun ls hl => ?_)
  have loop2 : ∀ (ddloop2 : Nat) (i : Int32) (H : Heap) (locs : List Loc) (ls : Array Slot), (30 - i.toInt).toNat < ddloop2 → (0 ≤ i.toInt ∧ i.toInt ≤ 24) → va_P D vwCl (mX mm q jn cI x0 x1 x2 x3 x4 x5 x6 x7 x8 x9 x10 x11 x12 x13 x14 x15 x16 x17 x18 x19 x20 f0 f1 f2 f3 f4 f5 f6 f7 f8 f9 f10 f11 f12 f13 f14 f15 f16 f17 f18 f19 f20 f21 f22 f23 f24) H → va_S (va_A [] s.heap.size) s.heap H locs → lv_has ls 4 [(0, .ref mm), (1, .int from_), (2, .int n), (3, .int i)] → W p l e ({ frames := 0, cells := 0, slots := 0, locals := 0 }) s m args below meth c H locs 0 0 Q (F0 m 2 ls []) := by
    intro ddloop2
    induction ddloop2 with
    | zero =>
      intro i H locs ls hdd
      exact absurd hdd (Nat.not_lt_zero _)
    | succ ddloop2 ih2 =>
      intro i H locs ls hdd hi hP hS hl
      refine lv_iload_n hx hb dX11_isPlain_2 rfl (lv_at hl 3 rfl) ?_
      refine lv_iload_n hx hb dX11_isPlain_3 rfl (lv_at hl 2 rfl) ?_
      refine a_icmp_ge (u := i.toInt) (v := n.toInt) (tgt := 31) hx hb dX11_isPlain_4 (by decide) (rfl) (rfl) (fun c_1 => ?_) (fun c_1 => ?_)
      · refine lv_aload_n hx hb dX11_isPlain_31 rfl (lv_at hl 0 rfl) ?_
        refine va_get (D := D) (ci := 11) (v := .int (nI jn)) (C := RX11) (T := TX11) (N := 47) hx hb hts (by decide +kernel) hown hK.1 hP 0 rfl rfl 0 (by decide) (hts (.fieldLink RX11 93 "JugglingHallModel" "jugglers" "I") (by decide +kernel)) (fun _ h9 => h9) rfl dX11_isPlain_32 ?_
        refine lv_iconst (v := 1) hx hb dX11_isPlain_35 (by decide) ?_
        refine a_icmp_ne (u := (jn : Int)) (v := 1) (tgt := 43) hx hb dX11_isPlain_36 (by decide) (nI_toInt (by omega)) (by decide) (fun c_2 => ?_) (fun c_2 => ?_)
        · refine lv_iconst (v := 0) hx hb dX11_isPlain_43 (by decide) ?_
          have hz_3 : (0 : Int32).toInt = 0 := by decide
          exact rp_zret hx hb hr hlocks hS (by first | exact Or.inl rfl | exact Or.inr rfl) (show (0 : Int32).toInt = 0 ∨ (0 : Int32).toInt = 1 from (by first | assumption | omega)) hQ dX11_isPlain_44
        · refine lv_iconst (v := 1) hx hb dX11_isPlain_39 (by decide) ?_
          refine lv_goto (tgt := 44) hx hb dX11_isPlain_40 (by decide) ?_
          have hz_4 : (1 : Int32).toInt = 1 := by decide
          exact rp_zret hx hb hr hlocks hS (by first | exact Or.inl rfl | exact Or.inr rfl) (show (1 : Int32).toInt = 0 ∨ (1 : Int32).toInt = 1 from (by first | assumption | omega)) hQ dX11_isPlain_44
      · refine lv_aload_n hx hb dX11_isPlain_7 rfl (lv_at hl 0 rfl) ?_
        refine va_get (D := D) (ci := 11) (v := .ref (q 3)) (C := RX11) (T := TX11) (N := 47) hx hb hts (by decide +kernel) hown hK.1 hP 0 rfl rfl 14 (by decide) (hts (.fieldLink RX11 27 "JugglingHallModel" "work" "[I") (by decide +kernel)) (fun _ h9 => h9) rfl dX11_isPlain_8 ?_
        refine lv_bipush (v := 6) hx hb dX11_isPlain_11 (by decide) ?_
        refine lv_iload_n hx hb dX11_isPlain_13 rfl (lv_at hl 1 rfl) ?_
        refine lv_iload_n hx hb dX11_isPlain_14 rfl (lv_at hl 3 rfl) ?_
        refine a_iadd (u := from_.toInt) (v := i.toInt) hx hb dX11_isPlain_15 (rfl) (rfl) (by omega) (fun z_5 e_5 => ?_)
        refine a_imul (u := 6) (v := (from_.toInt + i.toInt)) hx hb dX11_isPlain_16 (by decide) (e_5) (by omega) (fun z_6 e_6 => ?_)
        refine lv_iconst (v := 1) hx hb dX11_isPlain_17 (by decide) ?_
        refine a_iadd (u := (6 * (from_.toInt + i.toInt))) (v := 1) hx hb dX11_isPlain_18 (e_6) (by decide) (by omega) (fun z_7 e_7 => ?_)
        refine a_iald (f := f3) (u := ((6 * (from_.toInt + i.toInt)) + 1)) hx hb hK.1 hP 4 0 rfl rfl dX11_isPlain_19 (e_7) (by omega) (fun z_8 q_8 e_8 => ?_)
        refine a_if_le (u := z_8.toInt) (tgt := 25) hx hb dX11_isPlain_20 (by decide) (rfl) (fun c_9 => ?_) (fun c_9 => ?_)
        · obtain ⟨z_10, q_10, e_10⟩ := i_inc (a := i.toInt) (1) (rfl) (by decide) (by omega) (by omega)
          refine lv_iinc (v := z_10) (lv' := [(3, .int z_10), (0, .ref mm), (1, .int from_), (2, .int n)]) hx hb dX11_isPlain_25 hl (k := 3) rfl q_10 (by decide) rfl (fun ls hl => ?_)
          refine lv_goto (tgt := 2) hx hb dX11_isPlain_28 (by decide) ?_
          exact ih2 z_10 _ _ _ (by omega) (by first | assumption | omega) hP hS (lv_sub hl [1, 2, 3, 0] rfl)
        · refine lv_iconst (v := 0) hx hb dX11_isPlain_23 (by decide) ?_
          have hz_11 : (0 : Int32).toInt = 0 := by decide
          exact rp_zret hx hb hr hlocks hS (by first | exact Or.inl rfl | exact Or.inr rfl) (show (0 : Int32).toInt = 0 ∨ (0 : Int32).toInt = 1 from (by first | assumption | omega)) hQ dX11_isPlain_24
  have hz_12 : (0 : Int32).toInt = 0 := by decide
  exact loop2 ((30 - (0 : Int32).toInt).toNat + 1) (0 : Int32) _ _ _ (by omega) (by first | assumption | omega) hP hS (lv_sub hl [1, 2, 3, 0] rfl)
set_option maxRecDepth 100000 in
set_option maxHeartbeats 4000000 in
theorem k_opens (l : Launch) (D : va_G) (cI cR cM : ClassId) (sz : Nat) {jn mm : Nat} {q : Nat → Nat} {x0 x1 x2 x3 x4 x5 x6 x7 x8 x9 x10 x11 x12 x13 x14 x15 x16 x17 x18 x19 x20 : Int32} {f0 f1 f2 f3 f4 f5 f6 f7 f8 f9 f10 f11 f12 f13 f14 f15 f16 f17 f18 f19 f20 f21 f22 f23 f24 : Nat → Int32}  (ht : 0 ≤ x2.toInt ∧ x2.toInt ≤ 300) (h5 : 0 ≤ x5.toInt ∧ x5.toInt ≤ x2.toInt) (hT : TokOK x7 x8) (hj : 1 ≤ jn ∧ jn ≤ 3) (h11 : 0 ≤ x11.toInt ∧ x11.toInt ≤ 5) (h7 : x7.toInt = 40 ∨ (7 ≤ x7.toInt ∧ x7.toInt ≤ 10)) : Met l yX11_opens wsX11_opens ({ frames := 4, cells := 0, slots := 0, locals := 88 }) (P0 D cI cR cM [.ref mm] sz (mX mm q jn cI x0 x1 x2 x3 x4 x5 x6 x7 x8 x9 x10 x11 x12 x13 x14 x15 x16 x17 x18 x19 x20 f0 f1 f2 f3 f4 f5 f6 f7 f8 f9 f10 f11 f12 f13 f14 f15 f16 f17 f18 f19 f20 f21 f22 f23 f24)) (QG (S := Int32 × Int32 × Int32 × Int32 × Int32 × Int32 × Int32 × (Nat → Int32) × (Nat → Int32) × (Nat → Int32)) (fun u => some (.int u.1)) (fun u => mX mm q jn cI x0 x1 x2 x3 x4 (u.2.1) (u.2.2.1) (u.2.2.2.1) (u.2.2.2.2.1) (u.2.2.2.2.2.1) x10 (u.2.2.2.2.2.2.1) x12 x13 x14 x15 x16 x17 x18 x19 x20 f0 f1 f2 f3 (u.2.2.2.2.2.2.2.1) (u.2.2.2.2.2.2.2.2.1) (u.2.2.2.2.2.2.2.2.2) f7 f8 f9 f10 f11 f12 f13 f14 f15 f16 f17 f18 f19 f20 f21 f22 f23 f24) (fun u => (x5.toInt ≤ u.2.1.toInt ∧ u.2.1.toInt ≤ x2.toInt) ∧ (TokOK u.2.2.2.1 u.2.2.2.2.1) ∧ (u.1.toInt = 0 → x5.toInt < u.2.1.toInt ∨ u.2.2.2.1.toInt = 0) ∧ (u.1.toInt = 0 → u.2.2.2.2.2.2.1.toInt = x11.toInt + 1 ∧ u.2.2.2.2.2.2.1.toInt ≤ 5) ∧ (u.1.toInt = 0 → (∀ i : Int, 0 ≤ i → i ≠ x11.toInt → u.2.2.2.2.2.2.2.1 i.toNat = f4 i.toNat) ∧ ((u.2.2.2.2.2.2.2.1 x11.toInt.toNat).toInt = 0 ∨ (7 ≤ (u.2.2.2.2.2.2.2.1 x11.toInt.toNat).toInt ∧ (u.2.2.2.2.2.2.2.1 x11.toInt.toNat).toInt ≤ 10))) ∧ (u.1.toInt = 0 → (∀ i : Int, 0 ≤ i → i ≠ x11.toInt → u.2.2.2.2.2.2.2.2.1 i.toNat = f5 i.toNat) ∧ 0 ≤ (u.2.2.2.2.2.2.2.2.1 x11.toInt.toNat).toInt ∧ (u.2.2.2.2.2.2.2.2.1 x11.toInt.toNat).toInt ≤ 9) ∧ (u.1.toInt = 0 → (∀ i : Int, 0 ≤ i → i ≠ x11.toInt + 1 → u.2.2.2.2.2.2.2.2.2 i.toNat = f6 i.toNat) ∧ u.2.2.2.2.2.2.2.2.2 (x11.toInt + 1).toNat = x10)) D (va_A (mX mm q jn cI x0 x1 x2 x3 x4 x5 x6 x7 x8 x9 x10 x11 x12 x13 x14 x15 x16 x17 x18 x19 x20 f0 f1 f2 f3 f4 f5 f6 f7 f8 f9 f10 f11 f12 f13 f14 f15 f16 f17 f18 f19 f20 f21 f22 f23 f24) sz)) 0 0 (va_A (mX mm q jn cI x0 x1 x2 x3 x4 x5 x6 x7 x8 x9 x10 x11 x12 x13 x14 x15 x16 x17 x18 x19 x20 f0 f1 f2 f3 f4 f5 f6 f7 f8 f9 f10 f11 f12 f13 f14 f15 f16 f17 f18 f19 f20 f21 f22 f23 f24) sz) := by
  refine go (cc := cX11_opens) (maxL := 3) (ret := (some .int)) (by decide) rfl (Nat.le_of_ble_eq_true rfl) ?_
  intro p e s m below meth c ls args Q hQ hsz hx hb hr hml hts hown hlocks hnm hP hK hD hl
  subst hsz
  have hD := hD.self (sz := s.heap.size)
  generalize hAe : va_A (mX mm q jn cI x0 x1 x2 x3 x4 x5 x6 x7 x8 x9 x10 x11 x12 x13 x14 x15 x16 x17 x18 x19 x20 f0 f1 f2 f3 f4 f5 f6 f7 f8 f9 f10 f11 f12 f13 f14 f15 f16 f17 f18 f19 f20 f21 f22 f23 f24) s.heap.size = A at hD hQ
  have hA : ∀ q, s.heap.size ≤ q → A q := fun q h => by rw [← hAe]; exact Or.inr h
  have hS : va_S A s.heap s.heap [] := va_S.rf
  have hl : lv_has ls 3 [(0, .ref mm)] := hl
  refine lv_aload_n hx hb dX11_opens_0 rfl (lv_at hl 0 rfl) ?_
  refine va_get (D := D) (ci := 11) (v := .int x7) (C := RX11) (T := TX11) (N := 47) hx hb hts (by decide +kernel) hown hK.1 hP 0 rfl rfl 11 (by decide) (hts (.fieldLink RX11 131 "JugglingHallModel" "token" "I") (by decide +kernel)) (fun _ h9 => h9) rfl dX11_opens_1 ?_
  refine lv_bipush (v := 40) hx hb dX11_opens_4 (by decide) ?_
  refine a_icmp_ne (u := x7.toInt) (v := 40) (tgt := 13) hx hb dX11_opens_6 (by decide) (rfl) (by decide) (fun c_1 => ?_) (fun c_1 => ?_)
  · refine lv_aload_n hx hb dX11_opens_13 rfl (lv_at hl 0 rfl) ?_
    refine va_get (D := D) (ci := 11) (v := .int x7) (C := RX11) (T := TX11) (N := 47) hx hb hts (by decide +kernel) hown hK.1 hP 0 rfl rfl 11 (by decide) (hts (.fieldLink RX11 131 "JugglingHallModel" "token" "I") (by decide +kernel)) (fun _ h9 => h9) rfl dX11_opens_14 ?_
    refine lv_istore_n (lv' := [(1, .int x7), (0, .ref mm)]) hx hb dX11_opens_17 rfl hl (by decide) rfl (fun ls hl => ?_)
    refine lv_iload_n hx hb dX11_opens_18 rfl (lv_at hl 0 rfl) ?_
    refine a_if_le (u := x7.toInt) (tgt := 26) hx hb dX11_opens_19 (by decide) (rfl) (fun c_2 => ?_) (fun c_2 => ?_)
    · refine lv_iconst (v := 0) hx hb dX11_opens_26 (by decide) ?_
      refine lv_istore_n (lv' := [(2, .int 0), (1, .int x7), (0, .ref mm)]) hx hb dX11_opens_27 rfl hl (by decide) rfl (fun ls hl => ?_)
      refine lv_iload_n hx hb dX11_opens_28 rfl (lv_at hl 1 rfl) ?_
      refine lv_bipush (v := 10) hx hb dX11_opens_29 (by decide) ?_
      refine a_icmp_ne (u := x7.toInt) (v := 10) (tgt := 61) hx hb dX11_opens_31 (by decide) (rfl) (by decide) (fun c_3 => ?_) (fun c_3 => ?_)
      · refine lv_aload_n hx hb dX11_opens_61 rfl (lv_at hl 2 rfl) ?_
        refine va_get (D := D) (ci := 11) (v := .int x7) (C := RX11) (T := TX11) (N := 47) hx hb hts (by decide +kernel) hown hK.1 hP 0 rfl rfl 11 (by decide) (hts (.fieldLink RX11 131 "JugglingHallModel" "token" "I") (by decide +kernel)) (fun _ h9 => h9) rfl dX11_opens_62 ?_
        refine lv_bipush (v := 40) hx hb dX11_opens_65 (by decide) ?_
        refine a_icmp_eq (u := x7.toInt) (v := 40) (tgt := 80) hx hb dX11_opens_67 (by decide) (rfl) (by decide) (fun c_4 => ?_) (fun c_4 => ?_)
        · refine lv_aload_n hx hb dX11_opens_80 rfl (lv_at hl 2 rfl) ?_
          refine va_get (D := D) (ci := 11) (v := .int x11) (C := RX11) (T := TX11) (N := 47) hx hb hts (by decide +kernel) hown hK.1 hP 0 rfl rfl 20 (by decide) (hts (.fieldLink RX11 154 "JugglingHallModel" "depth" "I") (by decide +kernel)) (fun _ h9 => h9) rfl dX11_opens_81 ?_
          refine lv_iconst (v := 5) hx hb dX11_opens_84 (by decide) ?_
          refine a_icmp_ne (u := x11.toInt) (v := 5) (tgt := 98) hx hb dX11_opens_85 (by decide) (rfl) (by decide) (fun c_5 => ?_) (fun c_5 => ?_)
          · refine lv_aload_n hx hb dX11_opens_98 rfl (lv_at hl 2 rfl) ?_
            refine va_get (D := D) (ci := 11) (v := .ref (q 4)) (C := RX11) (T := TX11) (N := 47) hx hb hts (by decide +kernel) hown hK.1 hP 0 rfl rfl 15 (by decide) (hts (.fieldLink RX11 30 "JugglingHallModel" "open" "[I") (by decide +kernel)) (fun _ h9 => h9) rfl dX11_opens_99 ?_
            refine lv_aload_n hx hb dX11_opens_102 rfl (lv_at hl 2 rfl) ?_
            refine va_get (D := D) (ci := 11) (v := .int x11) (C := RX11) (T := TX11) (N := 47) hx hb hts (by decide +kernel) hown hK.1 hP 0 rfl rfl 20 (by decide) (hts (.fieldLink RX11 154 "JugglingHallModel" "depth" "I") (by decide +kernel)) (fun _ h9 => h9) rfl dX11_opens_103 ?_
            refine lv_iload_n hx hb dX11_opens_106 rfl (lv_at hl 1 rfl) ?_
            refine ma_4 (u := x11.toInt) hx hb hK hP hD hS dX11_opens_107 (rfl) (by omega) (fun g_6 H locs eg_6 hP hD hS => ?_)
            have hs4 : (g_6 x11.toInt.toNat) = x7 := by rw [eg_6, pk_us]
            refine lv_aload_n hx hb dX11_opens_108 rfl (lv_at hl 2 rfl) ?_
            refine va_get (D := D) (ci := 11) (v := .ref (q 5)) (C := RX11) (T := TX11) (N := 47) hx hb hts (by decide +kernel) hown hK.1 hP 0 rfl rfl 16 (by decide) (hts (.fieldLink RX11 33 "JugglingHallModel" "digit" "[I") (by decide +kernel)) (fun _ h9 => h9) rfl dX11_opens_109 ?_
            refine lv_aload_n hx hb dX11_opens_112 rfl (lv_at hl 2 rfl) ?_
            refine va_get (D := D) (ci := 11) (v := .int x11) (C := RX11) (T := TX11) (N := 47) hx hb hts (by decide +kernel) hown hK.1 hP 0 rfl rfl 20 (by decide) (hts (.fieldLink RX11 154 "JugglingHallModel" "depth" "I") (by decide +kernel)) (fun _ h9 => h9) rfl dX11_opens_113 ?_
            refine lv_iload_n hx hb dX11_opens_116 rfl (lv_at hl 0 rfl) ?_
            refine ma_5 (u := x11.toInt) hx hb hK hP hD hS dX11_opens_117 (rfl) (by omega) (fun g_7 H locs eg_7 hP hD hS => ?_)
            have hs5 : (g_7 x11.toInt.toNat) = (0 : Int32) := by rw [eg_7, pk_us]
            have hz_8 : (0 : Int32).toInt = 0 := by decide
            refine lv_aload_n hx hb dX11_opens_118 rfl (lv_at hl 2 rfl) ?_
            refine lv_dup hx hb dX11_opens_119 rfl ?_
            refine va_get (D := D) (ci := 11) (v := .int x11) (C := RX11) (T := TX11) (N := 47) hx hb hts (by decide +kernel) hown hK.1 hP 0 rfl rfl 20 (by decide) (hts (.fieldLink RX11 154 "JugglingHallModel" "depth" "I") (by decide +kernel)) (fun _ h9 => h9) rfl dX11_opens_120 ?_
            refine lv_iconst (v := 1) hx hb dX11_opens_123 (by decide) ?_
            refine a_iadd (u := x11.toInt) (v := 1) hx hb dX11_opens_124 (rfl) (by decide) (by omega) (fun z_9 e_9 => ?_)
            refine mp_11 hx hb hts (by decide +kernel) hown hK hP hD hS (hts (.fieldLink RX11 154 "JugglingHallModel" "depth" "I") (by decide +kernel)) dX11_opens_125 (fun H locs hP hD hS => ?_)
            refine lv_aload_n hx hb dX11_opens_128 rfl (lv_at hl 2 rfl) ?_
            refine va_get (D := D) (ci := 11) (v := .ref (q 6)) (C := RX11) (T := TX11) (N := 47) hx hb hts (by decide +kernel) hown hK.1 hP 0 rfl rfl 17 (by decide) (hts (.fieldLink RX11 36 "JugglingHallModel" "starts" "[I") (by decide +kernel)) (fun _ h9 => h9) rfl dX11_opens_129 ?_
            refine lv_aload_n hx hb dX11_opens_132 rfl (lv_at hl 2 rfl) ?_
            refine va_get (D := D) (ci := 11) (v := .int z_9) (C := RX11) (T := TX11) (N := 47) hx hb hts (by decide +kernel) hown hK.1 hP 0 rfl rfl 20 (by decide) (hts (.fieldLink RX11 154 "JugglingHallModel" "depth" "I") (by decide +kernel)) (fun _ h9 => h9) rfl dX11_opens_133 ?_
            refine lv_aload_n hx hb dX11_opens_136 rfl (lv_at hl 2 rfl) ?_
            refine va_get (D := D) (ci := 11) (v := .int x10) (C := RX11) (T := TX11) (N := 47) hx hb hts (by decide +kernel) hown hK.1 hP 0 rfl rfl 19 (by decide) (hts (.fieldLink RX11 151 "JugglingHallModel" "top" "I") (by decide +kernel)) (fun _ h9 => h9) rfl dX11_opens_137 ?_
            refine ma_6 (u := (x11.toInt + 1)) hx hb hK hP hD hS dX11_opens_140 (e_9) (by omega) (fun g_10 H locs eg_10 hP hD hS => ?_)
            have hx6 : z_9.toInt = x11.toInt + 1 := by omega
            have hs6 : (g_10 (x11.toInt + 1).toNat) = x10 := by rw [eg_10, show (x11.toInt + 1) = x11.toInt + 1 by omega, pk_us]
            refine lv_aload_n hx hb dX11_opens_141 rfl (lv_at hl 2 rfl) ?_
            refine call_g (wr := []) (va_runV (As := []) (rest := []) ⟨hx, hb, hml, hown, hts⟩ (k_next l D cI cR cM _  (by first | assumption | omega) (by first | assumption | omega)) (cwV 0 hts gX11_opens_X11_nextToken rfl rfl rfl (by decide +kernel) ⟨Nat.le_of_ble_eq_true rfl, Nat.le_of_ble_eq_true rfl⟩) (pre_V hK hP hD 0 11 rfl rfl) rfl rfl hl.1 rfl (lv_room (Nat.le_of_ble_eq_true rfl)) dX11_opens_142 ⟨Nat.le_of_ble_eq_true rfl, Nat.le_of_ble_eq_true rfl⟩) hP hD hS hA [0, 1, 2, 3, 4, 5, 6, 7, 8, 9, 10, 11, 12, 13, 14, 15, 16, 17, 18, 19, 20, 21, 22, 23, 24, 25] [] (by with_unfolding_all rfl) rfl (by decide) (by decide) (fun u_11 H locs hw hP hD hS => ?_)
            obtain ⟨y5_11, y6_11, y7_11, y8_11⟩ := u_11
            have hP : va_P D vwCl (mX mm q jn cI x0 x1 x2 x3 x4 y5_11 y6_11 y7_11 y8_11 x9 x10 z_9 x12 x13 x14 x15 x16 x17 x18 x19 x20 f0 f1 f2 f3 g_6 g_7 g_10 f7 f8 f9 f10 f11 f12 f13 f14 f15 f16 f17 f18 f19 f20 f21 f22 f23 f24) H := hP
            have hD : va_D A (mX mm q jn cI x0 x1 x2 x3 x4 y5_11 y6_11 y7_11 y8_11 x9 x10 z_9 x12 x13 x14 x15 x16 x17 x18 x19 x20 f0 f1 f2 f3 g_6 g_7 g_10 f7 f8 f9 f10 f11 f12 f13 f14 f15 f16 f17 f18 f19 f20 f21 f22 f23 f24) := hD
            obtain ⟨ha_11, hp_11, hk_11, hT_11⟩ : (x5.toInt ≤ y5_11.toInt ∧ y5_11.toInt ≤ x2.toInt) ∧ (0 ≤ y6_11.toInt ∧ y6_11.toInt ≤ 300) ∧ (y7_11.toInt = 0 ∨ x5.toInt < y5_11.toInt) ∧ (TokOK y7_11 y8_11) := hw
            refine lv_iconst (v := 0) hx hb dX11_opens_145 (by decide) ?_
            have hz_12 : (0 : Int32).toInt = 0 := by decide
            exact g_iret ((0 : Int32), y5_11, y6_11, y7_11, y8_11, x9, z_9, g_6, g_7, g_10) hx hb hr hlocks hS rfl (⟨show x5.toInt ≤ y5_11.toInt ∧ y5_11.toInt ≤ x2.toInt from (by first | assumption | omega), show TokOK y7_11 y8_11 from (by first | assumption | omega), show (0 : Int32).toInt = 0 → x5.toInt < y5_11.toInt ∨ y7_11.toInt = 0 from (by first | assumption | omega), show (0 : Int32).toInt = 0 → z_9.toInt = x11.toInt + 1 ∧ z_9.toInt ≤ 5 from (by first | assumption | omega), show (0 : Int32).toInt = 0 → (∀ i : Int, 0 ≤ i → i ≠ x11.toInt → g_6 i.toNat = f4 i.toNat) ∧ ((g_6 x11.toInt.toNat).toInt = 0 ∨ (7 ≤ (g_6 x11.toInt.toNat).toInt ∧ (g_6 x11.toInt.toNat).toInt ≤ 10)) from (fun _ => ⟨fun i i0 i1 => by rw [eg_6, un_i i0 (by omega) i1], by rw [hs4]; omega⟩), show (0 : Int32).toInt = 0 → (∀ i : Int, 0 ≤ i → i ≠ x11.toInt → g_7 i.toNat = f5 i.toNat) ∧ 0 ≤ (g_7 x11.toInt.toNat).toInt ∧ (g_7 x11.toInt.toNat).toInt ≤ 9 from (fun _ => ⟨fun i i0 i1 => by rw [eg_7, un_i i0 (by omega) i1], by rw [hs5]; omega⟩), show (0 : Int32).toInt = 0 → (∀ i : Int, 0 ≤ i → i ≠ x11.toInt + 1 → g_10 i.toNat = f6 i.toNat) ∧ g_10 (x11.toInt + 1).toNat = x10 from (fun _ => ⟨fun i i0 i1 => by rw [eg_10, un_i i0 (by omega) (by omega)], hs6⟩)⟩) hP hD hQ (Nat.le_of_ble_eq_true rfl) (Nat.le_of_ble_eq_true rfl) dX11_opens_146
          · refine lv_aload_n hx hb dX11_opens_88 rfl (lv_at hl 2 rfl) ?_
            refine lv_iconst (v := 3) hx hb dX11_opens_89 (by decide) ?_
            refine lv_aload_n hx hb dX11_opens_90 rfl (lv_at hl 2 rfl) ?_
            refine va_get (D := D) (ci := 11) (v := .int x6) (C := RX11) (T := TX11) (N := 47) hx hb hts (by decide +kernel) hown hK.1 hP 0 rfl rfl 10 (by decide) (hts (.fieldLink RX11 120 "JugglingHallModel" "place" "I") (by decide +kernel)) (fun _ h9 => h9) rfl dX11_opens_91 ?_
            have hz_13 : (3 : Int32).toInt = 3 := by decide
            refine call_g (wr := []) (va_runV (As := [.int 3, .int x6]) (rest := []) ⟨hx, hb, hml, hown, hts⟩ (k_fails l D cI cR cM _  ) (cwV 2 hts gX11_opens_X11_fails rfl rfl rfl (by decide +kernel) ⟨Nat.le_of_ble_eq_true rfl, Nat.le_of_ble_eq_true rfl⟩) (pre_V hK hP hD 0 11 rfl rfl) rfl rfl hl.1 rfl (lv_room (Nat.le_of_ble_eq_true rfl)) dX11_opens_94 ⟨Nat.le_of_ble_eq_true rfl, Nat.le_of_ble_eq_true rfl⟩) hP hD hS hA [0, 1, 2, 3, 4, 5, 6, 7, 8, 9, 10, 11, 12, 13, 14, 15, 16, 17, 18, 19, 20, 21, 22, 23, 24, 25] [] (by with_unfolding_all rfl) rfl (by decide) (by decide) (fun u_14 H locs hw hP hD hS => ?_)
            obtain ⟨r_14, y9_14⟩ := u_14
            have hP : va_P D vwCl (mX mm q jn cI x0 x1 x2 x3 x4 x5 x6 x7 x8 y9_14 x10 x11 x12 x13 x14 x15 x16 x17 x18 x19 x20 f0 f1 f2 f3 f4 f5 f6 f7 f8 f9 f10 f11 f12 f13 f14 f15 f16 f17 f18 f19 f20 f21 f22 f23 f24) H := hP
            have hD : va_D A (mX mm q jn cI x0 x1 x2 x3 x4 x5 x6 x7 x8 y9_14 x10 x11 x12 x13 x14 x15 x16 x17 x18 x19 x20 f0 f1 f2 f3 f4 f5 f6 f7 f8 f9 f10 f11 f12 f13 f14 f15 f16 f17 f18 f19 f20 f21 f22 f23 f24) := hD
            have hr_14 : (r_14.toInt = (3 : Int32).toInt) := hw
            exact g_iret (r_14, x5, x6, x7, x8, y9_14, x11, f4, f5, f6) hx hb hr hlocks hS rfl (⟨show x5.toInt ≤ x5.toInt ∧ x5.toInt ≤ x2.toInt from (by first | assumption | omega), show TokOK x7 x8 from (by first | assumption | omega), show r_14.toInt = 0 → x5.toInt < x5.toInt ∨ x7.toInt = 0 from (by first | assumption | omega), show r_14.toInt = 0 → x11.toInt = x11.toInt + 1 ∧ x11.toInt ≤ 5 from (by first | assumption | omega), show r_14.toInt = 0 → (∀ i : Int, 0 ≤ i → i ≠ x11.toInt → f4 i.toNat = f4 i.toNat) ∧ ((f4 x11.toInt.toNat).toInt = 0 ∨ (7 ≤ (f4 x11.toInt.toNat).toInt ∧ (f4 x11.toInt.toNat).toInt ≤ 10)) from (fun q => absurd q (by omega)), show r_14.toInt = 0 → (∀ i : Int, 0 ≤ i → i ≠ x11.toInt → f5 i.toNat = f5 i.toNat) ∧ 0 ≤ (f5 x11.toInt.toNat).toInt ∧ (f5 x11.toInt.toNat).toInt ≤ 9 from (fun q => absurd q (by omega)), show r_14.toInt = 0 → (∀ i : Int, 0 ≤ i → i ≠ x11.toInt + 1 → f6 i.toNat = f6 i.toNat) ∧ f6 (x11.toInt + 1).toNat = x10 from (fun q => absurd q (by omega))⟩) hP hD hQ (Nat.le_of_ble_eq_true rfl) (Nat.le_of_ble_eq_true rfl) dX11_opens_97
        · refine lv_aload_n hx hb dX11_opens_70 rfl (lv_at hl 2 rfl) ?_
          refine lv_iconst (v := 1) hx hb dX11_opens_71 (by decide) ?_
          refine lv_aload_n hx hb dX11_opens_72 rfl (lv_at hl 2 rfl) ?_
          refine va_get (D := D) (ci := 11) (v := .int x6) (C := RX11) (T := TX11) (N := 47) hx hb hts (by decide +kernel) hown hK.1 hP 0 rfl rfl 10 (by decide) (hts (.fieldLink RX11 120 "JugglingHallModel" "place" "I") (by decide +kernel)) (fun _ h9 => h9) rfl dX11_opens_73 ?_
          have hz_15 : (1 : Int32).toInt = 1 := by decide
          refine call_g (wr := []) (va_runV (As := [.int 1, .int x6]) (rest := []) ⟨hx, hb, hml, hown, hts⟩ (k_fails l D cI cR cM _  ) (cwV 2 hts gX11_opens_X11_fails rfl rfl rfl (by decide +kernel) ⟨Nat.le_of_ble_eq_true rfl, Nat.le_of_ble_eq_true rfl⟩) (pre_V hK hP hD 0 11 rfl rfl) rfl rfl hl.1 rfl (lv_room (Nat.le_of_ble_eq_true rfl)) dX11_opens_76 ⟨Nat.le_of_ble_eq_true rfl, Nat.le_of_ble_eq_true rfl⟩) hP hD hS hA [0, 1, 2, 3, 4, 5, 6, 7, 8, 9, 10, 11, 12, 13, 14, 15, 16, 17, 18, 19, 20, 21, 22, 23, 24, 25] [] (by with_unfolding_all rfl) rfl (by decide) (by decide) (fun u_16 H locs hw hP hD hS => ?_)
          obtain ⟨r_16, y9_16⟩ := u_16
          have hP : va_P D vwCl (mX mm q jn cI x0 x1 x2 x3 x4 x5 x6 x7 x8 y9_16 x10 x11 x12 x13 x14 x15 x16 x17 x18 x19 x20 f0 f1 f2 f3 f4 f5 f6 f7 f8 f9 f10 f11 f12 f13 f14 f15 f16 f17 f18 f19 f20 f21 f22 f23 f24) H := hP
          have hD : va_D A (mX mm q jn cI x0 x1 x2 x3 x4 x5 x6 x7 x8 y9_16 x10 x11 x12 x13 x14 x15 x16 x17 x18 x19 x20 f0 f1 f2 f3 f4 f5 f6 f7 f8 f9 f10 f11 f12 f13 f14 f15 f16 f17 f18 f19 f20 f21 f22 f23 f24) := hD
          have hr_16 : (r_16.toInt = (1 : Int32).toInt) := hw
          exact g_iret (r_16, x5, x6, x7, x8, y9_16, x11, f4, f5, f6) hx hb hr hlocks hS rfl (⟨show x5.toInt ≤ x5.toInt ∧ x5.toInt ≤ x2.toInt from (by first | assumption | omega), show TokOK x7 x8 from (by first | assumption | omega), show r_16.toInt = 0 → x5.toInt < x5.toInt ∨ x7.toInt = 0 from (by first | assumption | omega), show r_16.toInt = 0 → x11.toInt = x11.toInt + 1 ∧ x11.toInt ≤ 5 from (by first | assumption | omega), show r_16.toInt = 0 → (∀ i : Int, 0 ≤ i → i ≠ x11.toInt → f4 i.toNat = f4 i.toNat) ∧ ((f4 x11.toInt.toNat).toInt = 0 ∨ (7 ≤ (f4 x11.toInt.toNat).toInt ∧ (f4 x11.toInt.toNat).toInt ≤ 10)) from (fun q => absurd q (by omega)), show r_16.toInt = 0 → (∀ i : Int, 0 ≤ i → i ≠ x11.toInt → f5 i.toNat = f5 i.toNat) ∧ 0 ≤ (f5 x11.toInt.toNat).toInt ∧ (f5 x11.toInt.toNat).toInt ≤ 9 from (fun q => absurd q (by omega)), show r_16.toInt = 0 → (∀ i : Int, 0 ≤ i → i ≠ x11.toInt + 1 → f6 i.toNat = f6 i.toNat) ∧ f6 (x11.toInt + 1).toNat = x10 from (fun q => absurd q (by omega))⟩) hP hD hQ (Nat.le_of_ble_eq_true rfl) (Nat.le_of_ble_eq_true rfl) dX11_opens_79
      · refine lv_aload_n hx hb dX11_opens_34 rfl (lv_at hl 2 rfl) ?_
        refine va_get (D := D) (ci := 11) (v := .int x7) (C := RX11) (T := TX11) (N := 47) hx hb hts (by decide +kernel) hown hK.1 hP 0 rfl rfl 11 (by decide) (hts (.fieldLink RX11 131 "JugglingHallModel" "token" "I") (by decide +kernel)) (fun _ h9 => h9) rfl dX11_opens_35 ?_
        refine lv_iconst (v := 1) hx hb dX11_opens_38 (by decide) ?_
        refine a_icmp_eq (u := x7.toInt) (v := 1) (tgt := 52) hx hb dX11_opens_39 (by decide) (rfl) (by decide) (fun c_17 => ?_) (fun c_17 => ?_)
        · have hv18 := hT.2.1 (by omega)
          refine lv_aload_n hx hb dX11_opens_52 rfl (lv_at hl 2 rfl) ?_
          refine va_get (D := D) (ci := 11) (v := .int x8) (C := RX11) (T := TX11) (N := 47) hx hb hts (by decide +kernel) hown hK.1 hP 0 rfl rfl 12 (by decide) (hts (.fieldLink RX11 138 "JugglingHallModel" "value" "I") (by decide +kernel)) (fun _ h9 => h9) rfl dX11_opens_53 ?_
          refine lv_istore_n (lv' := [(2, .int x8), (1, .int x7), (0, .ref mm)]) hx hb dX11_opens_56 rfl hl (by decide) rfl (fun ls hl => ?_)
          refine lv_aload_n hx hb dX11_opens_57 rfl (lv_at hl 2 rfl) ?_
          refine call_g (wr := []) (va_runV (As := []) (rest := []) ⟨hx, hb, hml, hown, hts⟩ (k_next l D cI cR cM _  (by first | assumption | omega) (by first | assumption | omega)) (cwV 0 hts gX11_opens_X11_nextToken rfl rfl rfl (by decide +kernel) ⟨Nat.le_of_ble_eq_true rfl, Nat.le_of_ble_eq_true rfl⟩) (pre_V hK hP hD 0 11 rfl rfl) rfl rfl hl.1 rfl (lv_room (Nat.le_of_ble_eq_true rfl)) dX11_opens_58 ⟨Nat.le_of_ble_eq_true rfl, Nat.le_of_ble_eq_true rfl⟩) hP hD hS hA [0, 1, 2, 3, 4, 5, 6, 7, 8, 9, 10, 11, 12, 13, 14, 15, 16, 17, 18, 19, 20, 21, 22, 23, 24, 25] [] (by with_unfolding_all rfl) rfl (by decide) (by decide) (fun u_19 H locs hw hP hD hS => ?_)
          obtain ⟨y5_19, y6_19, y7_19, y8_19⟩ := u_19
          have hP : va_P D vwCl (mX mm q jn cI x0 x1 x2 x3 x4 y5_19 y6_19 y7_19 y8_19 x9 x10 x11 x12 x13 x14 x15 x16 x17 x18 x19 x20 f0 f1 f2 f3 f4 f5 f6 f7 f8 f9 f10 f11 f12 f13 f14 f15 f16 f17 f18 f19 f20 f21 f22 f23 f24) H := hP
          have hD : va_D A (mX mm q jn cI x0 x1 x2 x3 x4 y5_19 y6_19 y7_19 y8_19 x9 x10 x11 x12 x13 x14 x15 x16 x17 x18 x19 x20 f0 f1 f2 f3 f4 f5 f6 f7 f8 f9 f10 f11 f12 f13 f14 f15 f16 f17 f18 f19 f20 f21 f22 f23 f24) := hD
          obtain ⟨ha_19, hp_19, hk_19, hT_19⟩ : (x5.toInt ≤ y5_19.toInt ∧ y5_19.toInt ≤ x2.toInt) ∧ (0 ≤ y6_19.toInt ∧ y6_19.toInt ≤ 300) ∧ (y7_19.toInt = 0 ∨ x5.toInt < y5_19.toInt) ∧ (TokOK y7_19 y8_19) := hw
          refine lv_aload_n hx hb dX11_opens_61 rfl (lv_at hl 2 rfl) ?_
          refine va_get (D := D) (ci := 11) (v := .int y7_19) (C := RX11) (T := TX11) (N := 47) hx hb hts (by decide +kernel) hown hK.1 hP 0 rfl rfl 11 (by decide) (hts (.fieldLink RX11 131 "JugglingHallModel" "token" "I") (by decide +kernel)) (fun _ h9 => h9) rfl dX11_opens_62 ?_
          refine lv_bipush (v := 40) hx hb dX11_opens_65 (by decide) ?_
          refine a_icmp_eq (u := y7_19.toInt) (v := 40) (tgt := 80) hx hb dX11_opens_67 (by decide) (rfl) (by decide) (fun c_20 => ?_) (fun c_20 => ?_)
          · refine lv_aload_n hx hb dX11_opens_80 rfl (lv_at hl 2 rfl) ?_
            refine va_get (D := D) (ci := 11) (v := .int x11) (C := RX11) (T := TX11) (N := 47) hx hb hts (by decide +kernel) hown hK.1 hP 0 rfl rfl 20 (by decide) (hts (.fieldLink RX11 154 "JugglingHallModel" "depth" "I") (by decide +kernel)) (fun _ h9 => h9) rfl dX11_opens_81 ?_
            refine lv_iconst (v := 5) hx hb dX11_opens_84 (by decide) ?_
            refine a_icmp_ne (u := x11.toInt) (v := 5) (tgt := 98) hx hb dX11_opens_85 (by decide) (rfl) (by decide) (fun c_21 => ?_) (fun c_21 => ?_)
            · refine lv_aload_n hx hb dX11_opens_98 rfl (lv_at hl 2 rfl) ?_
              refine va_get (D := D) (ci := 11) (v := .ref (q 4)) (C := RX11) (T := TX11) (N := 47) hx hb hts (by decide +kernel) hown hK.1 hP 0 rfl rfl 15 (by decide) (hts (.fieldLink RX11 30 "JugglingHallModel" "open" "[I") (by decide +kernel)) (fun _ h9 => h9) rfl dX11_opens_99 ?_
              refine lv_aload_n hx hb dX11_opens_102 rfl (lv_at hl 2 rfl) ?_
              refine va_get (D := D) (ci := 11) (v := .int x11) (C := RX11) (T := TX11) (N := 47) hx hb hts (by decide +kernel) hown hK.1 hP 0 rfl rfl 20 (by decide) (hts (.fieldLink RX11 154 "JugglingHallModel" "depth" "I") (by decide +kernel)) (fun _ h9 => h9) rfl dX11_opens_103 ?_
              refine lv_iload_n hx hb dX11_opens_106 rfl (lv_at hl 1 rfl) ?_
              refine ma_4 (u := x11.toInt) hx hb hK hP hD hS dX11_opens_107 (rfl) (by omega) (fun g_22 H locs eg_22 hP hD hS => ?_)
              have hs4 : (g_22 x11.toInt.toNat) = x7 := by rw [eg_22, pk_us]
              refine lv_aload_n hx hb dX11_opens_108 rfl (lv_at hl 2 rfl) ?_
              refine va_get (D := D) (ci := 11) (v := .ref (q 5)) (C := RX11) (T := TX11) (N := 47) hx hb hts (by decide +kernel) hown hK.1 hP 0 rfl rfl 16 (by decide) (hts (.fieldLink RX11 33 "JugglingHallModel" "digit" "[I") (by decide +kernel)) (fun _ h9 => h9) rfl dX11_opens_109 ?_
              refine lv_aload_n hx hb dX11_opens_112 rfl (lv_at hl 2 rfl) ?_
              refine va_get (D := D) (ci := 11) (v := .int x11) (C := RX11) (T := TX11) (N := 47) hx hb hts (by decide +kernel) hown hK.1 hP 0 rfl rfl 20 (by decide) (hts (.fieldLink RX11 154 "JugglingHallModel" "depth" "I") (by decide +kernel)) (fun _ h9 => h9) rfl dX11_opens_113 ?_
              refine lv_iload_n hx hb dX11_opens_116 rfl (lv_at hl 0 rfl) ?_
              refine ma_5 (u := x11.toInt) hx hb hK hP hD hS dX11_opens_117 (rfl) (by omega) (fun g_23 H locs eg_23 hP hD hS => ?_)
              have hs5 : (g_23 x11.toInt.toNat) = x8 := by rw [eg_23, pk_us]
              refine lv_aload_n hx hb dX11_opens_118 rfl (lv_at hl 2 rfl) ?_
              refine lv_dup hx hb dX11_opens_119 rfl ?_
              refine va_get (D := D) (ci := 11) (v := .int x11) (C := RX11) (T := TX11) (N := 47) hx hb hts (by decide +kernel) hown hK.1 hP 0 rfl rfl 20 (by decide) (hts (.fieldLink RX11 154 "JugglingHallModel" "depth" "I") (by decide +kernel)) (fun _ h9 => h9) rfl dX11_opens_120 ?_
              refine lv_iconst (v := 1) hx hb dX11_opens_123 (by decide) ?_
              refine a_iadd (u := x11.toInt) (v := 1) hx hb dX11_opens_124 (rfl) (by decide) (by omega) (fun z_24 e_24 => ?_)
              refine mp_11 hx hb hts (by decide +kernel) hown hK hP hD hS (hts (.fieldLink RX11 154 "JugglingHallModel" "depth" "I") (by decide +kernel)) dX11_opens_125 (fun H locs hP hD hS => ?_)
              refine lv_aload_n hx hb dX11_opens_128 rfl (lv_at hl 2 rfl) ?_
              refine va_get (D := D) (ci := 11) (v := .ref (q 6)) (C := RX11) (T := TX11) (N := 47) hx hb hts (by decide +kernel) hown hK.1 hP 0 rfl rfl 17 (by decide) (hts (.fieldLink RX11 36 "JugglingHallModel" "starts" "[I") (by decide +kernel)) (fun _ h9 => h9) rfl dX11_opens_129 ?_
              refine lv_aload_n hx hb dX11_opens_132 rfl (lv_at hl 2 rfl) ?_
              refine va_get (D := D) (ci := 11) (v := .int z_24) (C := RX11) (T := TX11) (N := 47) hx hb hts (by decide +kernel) hown hK.1 hP 0 rfl rfl 20 (by decide) (hts (.fieldLink RX11 154 "JugglingHallModel" "depth" "I") (by decide +kernel)) (fun _ h9 => h9) rfl dX11_opens_133 ?_
              refine lv_aload_n hx hb dX11_opens_136 rfl (lv_at hl 2 rfl) ?_
              refine va_get (D := D) (ci := 11) (v := .int x10) (C := RX11) (T := TX11) (N := 47) hx hb hts (by decide +kernel) hown hK.1 hP 0 rfl rfl 19 (by decide) (hts (.fieldLink RX11 151 "JugglingHallModel" "top" "I") (by decide +kernel)) (fun _ h9 => h9) rfl dX11_opens_137 ?_
              refine ma_6 (u := (x11.toInt + 1)) hx hb hK hP hD hS dX11_opens_140 (e_24) (by omega) (fun g_25 H locs eg_25 hP hD hS => ?_)
              have hx6 : z_24.toInt = x11.toInt + 1 := by omega
              have hs6 : (g_25 (x11.toInt + 1).toNat) = x10 := by rw [eg_25, show (x11.toInt + 1) = x11.toInt + 1 by omega, pk_us]
              refine lv_aload_n hx hb dX11_opens_141 rfl (lv_at hl 2 rfl) ?_
              refine call_g (wr := []) (va_runV (As := []) (rest := []) ⟨hx, hb, hml, hown, hts⟩ (k_next l D cI cR cM _  (by first | assumption | omega) (by first | assumption | omega)) (cwV 0 hts gX11_opens_X11_nextToken rfl rfl rfl (by decide +kernel) ⟨Nat.le_of_ble_eq_true rfl, Nat.le_of_ble_eq_true rfl⟩) (pre_V hK hP hD 0 11 rfl rfl) rfl rfl hl.1 rfl (lv_room (Nat.le_of_ble_eq_true rfl)) dX11_opens_142 ⟨Nat.le_of_ble_eq_true rfl, Nat.le_of_ble_eq_true rfl⟩) hP hD hS hA [0, 1, 2, 3, 4, 5, 6, 7, 8, 9, 10, 11, 12, 13, 14, 15, 16, 17, 18, 19, 20, 21, 22, 23, 24, 25] [] (by with_unfolding_all rfl) rfl (by decide) (by decide) (fun u_26 H locs hw hP hD hS => ?_)
              obtain ⟨y5_26, y6_26, y7_26, y8_26⟩ := u_26
              have hP : va_P D vwCl (mX mm q jn cI x0 x1 x2 x3 x4 y5_26 y6_26 y7_26 y8_26 x9 x10 z_24 x12 x13 x14 x15 x16 x17 x18 x19 x20 f0 f1 f2 f3 g_22 g_23 g_25 f7 f8 f9 f10 f11 f12 f13 f14 f15 f16 f17 f18 f19 f20 f21 f22 f23 f24) H := hP
              have hD : va_D A (mX mm q jn cI x0 x1 x2 x3 x4 y5_26 y6_26 y7_26 y8_26 x9 x10 z_24 x12 x13 x14 x15 x16 x17 x18 x19 x20 f0 f1 f2 f3 g_22 g_23 g_25 f7 f8 f9 f10 f11 f12 f13 f14 f15 f16 f17 f18 f19 f20 f21 f22 f23 f24) := hD
              obtain ⟨ha_26, hp_26, hk_26, hT_26⟩ : (y5_19.toInt ≤ y5_26.toInt ∧ y5_26.toInt ≤ x2.toInt) ∧ (0 ≤ y6_26.toInt ∧ y6_26.toInt ≤ 300) ∧ (y7_26.toInt = 0 ∨ y5_19.toInt < y5_26.toInt) ∧ (TokOK y7_26 y8_26) := hw
              refine lv_iconst (v := 0) hx hb dX11_opens_145 (by decide) ?_
              have hz_27 : (0 : Int32).toInt = 0 := by decide
              exact g_iret ((0 : Int32), y5_26, y6_26, y7_26, y8_26, x9, z_24, g_22, g_23, g_25) hx hb hr hlocks hS rfl (⟨show x5.toInt ≤ y5_26.toInt ∧ y5_26.toInt ≤ x2.toInt from (by first | assumption | omega), show TokOK y7_26 y8_26 from (by first | assumption | omega), show (0 : Int32).toInt = 0 → x5.toInt < y5_26.toInt ∨ y7_26.toInt = 0 from (by first | assumption | omega), show (0 : Int32).toInt = 0 → z_24.toInt = x11.toInt + 1 ∧ z_24.toInt ≤ 5 from (by first | assumption | omega), show (0 : Int32).toInt = 0 → (∀ i : Int, 0 ≤ i → i ≠ x11.toInt → g_22 i.toNat = f4 i.toNat) ∧ ((g_22 x11.toInt.toNat).toInt = 0 ∨ (7 ≤ (g_22 x11.toInt.toNat).toInt ∧ (g_22 x11.toInt.toNat).toInt ≤ 10)) from (fun _ => ⟨fun i i0 i1 => by rw [eg_22, un_i i0 (by omega) i1], by rw [hs4]; omega⟩), show (0 : Int32).toInt = 0 → (∀ i : Int, 0 ≤ i → i ≠ x11.toInt → g_23 i.toNat = f5 i.toNat) ∧ 0 ≤ (g_23 x11.toInt.toNat).toInt ∧ (g_23 x11.toInt.toNat).toInt ≤ 9 from (fun _ => ⟨fun i i0 i1 => by rw [eg_23, un_i i0 (by omega) i1], by rw [hs5]; omega⟩), show (0 : Int32).toInt = 0 → (∀ i : Int, 0 ≤ i → i ≠ x11.toInt + 1 → g_25 i.toNat = f6 i.toNat) ∧ g_25 (x11.toInt + 1).toNat = x10 from (fun _ => ⟨fun i i0 i1 => by rw [eg_25, un_i i0 (by omega) (by omega)], hs6⟩)⟩) hP hD hQ (Nat.le_of_ble_eq_true rfl) (Nat.le_of_ble_eq_true rfl) dX11_opens_146
            · refine lv_aload_n hx hb dX11_opens_88 rfl (lv_at hl 2 rfl) ?_
              refine lv_iconst (v := 3) hx hb dX11_opens_89 (by decide) ?_
              refine lv_aload_n hx hb dX11_opens_90 rfl (lv_at hl 2 rfl) ?_
              refine va_get (D := D) (ci := 11) (v := .int y6_19) (C := RX11) (T := TX11) (N := 47) hx hb hts (by decide +kernel) hown hK.1 hP 0 rfl rfl 10 (by decide) (hts (.fieldLink RX11 120 "JugglingHallModel" "place" "I") (by decide +kernel)) (fun _ h9 => h9) rfl dX11_opens_91 ?_
              have hz_28 : (3 : Int32).toInt = 3 := by decide
              refine call_g (wr := []) (va_runV (As := [.int 3, .int y6_19]) (rest := []) ⟨hx, hb, hml, hown, hts⟩ (k_fails l D cI cR cM _  ) (cwV 2 hts gX11_opens_X11_fails rfl rfl rfl (by decide +kernel) ⟨Nat.le_of_ble_eq_true rfl, Nat.le_of_ble_eq_true rfl⟩) (pre_V hK hP hD 0 11 rfl rfl) rfl rfl hl.1 rfl (lv_room (Nat.le_of_ble_eq_true rfl)) dX11_opens_94 ⟨Nat.le_of_ble_eq_true rfl, Nat.le_of_ble_eq_true rfl⟩) hP hD hS hA [0, 1, 2, 3, 4, 5, 6, 7, 8, 9, 10, 11, 12, 13, 14, 15, 16, 17, 18, 19, 20, 21, 22, 23, 24, 25] [] (by with_unfolding_all rfl) rfl (by decide) (by decide) (fun u_29 H locs hw hP hD hS => ?_)
              obtain ⟨r_29, y9_29⟩ := u_29
              have hP : va_P D vwCl (mX mm q jn cI x0 x1 x2 x3 x4 y5_19 y6_19 y7_19 y8_19 y9_29 x10 x11 x12 x13 x14 x15 x16 x17 x18 x19 x20 f0 f1 f2 f3 f4 f5 f6 f7 f8 f9 f10 f11 f12 f13 f14 f15 f16 f17 f18 f19 f20 f21 f22 f23 f24) H := hP
              have hD : va_D A (mX mm q jn cI x0 x1 x2 x3 x4 y5_19 y6_19 y7_19 y8_19 y9_29 x10 x11 x12 x13 x14 x15 x16 x17 x18 x19 x20 f0 f1 f2 f3 f4 f5 f6 f7 f8 f9 f10 f11 f12 f13 f14 f15 f16 f17 f18 f19 f20 f21 f22 f23 f24) := hD
              have hr_29 : (r_29.toInt = (3 : Int32).toInt) := hw
              exact g_iret (r_29, y5_19, y6_19, y7_19, y8_19, y9_29, x11, f4, f5, f6) hx hb hr hlocks hS rfl (⟨show x5.toInt ≤ y5_19.toInt ∧ y5_19.toInt ≤ x2.toInt from (by first | assumption | omega), show TokOK y7_19 y8_19 from (by first | assumption | omega), show r_29.toInt = 0 → x5.toInt < y5_19.toInt ∨ y7_19.toInt = 0 from (by first | assumption | omega), show r_29.toInt = 0 → x11.toInt = x11.toInt + 1 ∧ x11.toInt ≤ 5 from (by first | assumption | omega), show r_29.toInt = 0 → (∀ i : Int, 0 ≤ i → i ≠ x11.toInt → f4 i.toNat = f4 i.toNat) ∧ ((f4 x11.toInt.toNat).toInt = 0 ∨ (7 ≤ (f4 x11.toInt.toNat).toInt ∧ (f4 x11.toInt.toNat).toInt ≤ 10)) from (fun q => absurd q (by omega)), show r_29.toInt = 0 → (∀ i : Int, 0 ≤ i → i ≠ x11.toInt → f5 i.toNat = f5 i.toNat) ∧ 0 ≤ (f5 x11.toInt.toNat).toInt ∧ (f5 x11.toInt.toNat).toInt ≤ 9 from (fun q => absurd q (by omega)), show r_29.toInt = 0 → (∀ i : Int, 0 ≤ i → i ≠ x11.toInt + 1 → f6 i.toNat = f6 i.toNat) ∧ f6 (x11.toInt + 1).toNat = x10 from (fun q => absurd q (by omega))⟩) hP hD hQ (Nat.le_of_ble_eq_true rfl) (Nat.le_of_ble_eq_true rfl) dX11_opens_97
          · refine lv_aload_n hx hb dX11_opens_70 rfl (lv_at hl 2 rfl) ?_
            refine lv_iconst (v := 1) hx hb dX11_opens_71 (by decide) ?_
            refine lv_aload_n hx hb dX11_opens_72 rfl (lv_at hl 2 rfl) ?_
            refine va_get (D := D) (ci := 11) (v := .int y6_19) (C := RX11) (T := TX11) (N := 47) hx hb hts (by decide +kernel) hown hK.1 hP 0 rfl rfl 10 (by decide) (hts (.fieldLink RX11 120 "JugglingHallModel" "place" "I") (by decide +kernel)) (fun _ h9 => h9) rfl dX11_opens_73 ?_
            have hz_30 : (1 : Int32).toInt = 1 := by decide
            refine call_g (wr := []) (va_runV (As := [.int 1, .int y6_19]) (rest := []) ⟨hx, hb, hml, hown, hts⟩ (k_fails l D cI cR cM _  ) (cwV 2 hts gX11_opens_X11_fails rfl rfl rfl (by decide +kernel) ⟨Nat.le_of_ble_eq_true rfl, Nat.le_of_ble_eq_true rfl⟩) (pre_V hK hP hD 0 11 rfl rfl) rfl rfl hl.1 rfl (lv_room (Nat.le_of_ble_eq_true rfl)) dX11_opens_76 ⟨Nat.le_of_ble_eq_true rfl, Nat.le_of_ble_eq_true rfl⟩) hP hD hS hA [0, 1, 2, 3, 4, 5, 6, 7, 8, 9, 10, 11, 12, 13, 14, 15, 16, 17, 18, 19, 20, 21, 22, 23, 24, 25] [] (by with_unfolding_all rfl) rfl (by decide) (by decide) (fun u_31 H locs hw hP hD hS => ?_)
            obtain ⟨r_31, y9_31⟩ := u_31
            have hP : va_P D vwCl (mX mm q jn cI x0 x1 x2 x3 x4 y5_19 y6_19 y7_19 y8_19 y9_31 x10 x11 x12 x13 x14 x15 x16 x17 x18 x19 x20 f0 f1 f2 f3 f4 f5 f6 f7 f8 f9 f10 f11 f12 f13 f14 f15 f16 f17 f18 f19 f20 f21 f22 f23 f24) H := hP
            have hD : va_D A (mX mm q jn cI x0 x1 x2 x3 x4 y5_19 y6_19 y7_19 y8_19 y9_31 x10 x11 x12 x13 x14 x15 x16 x17 x18 x19 x20 f0 f1 f2 f3 f4 f5 f6 f7 f8 f9 f10 f11 f12 f13 f14 f15 f16 f17 f18 f19 f20 f21 f22 f23 f24) := hD
            have hr_31 : (r_31.toInt = (1 : Int32).toInt) := hw
            exact g_iret (r_31, y5_19, y6_19, y7_19, y8_19, y9_31, x11, f4, f5, f6) hx hb hr hlocks hS rfl (⟨show x5.toInt ≤ y5_19.toInt ∧ y5_19.toInt ≤ x2.toInt from (by first | assumption | omega), show TokOK y7_19 y8_19 from (by first | assumption | omega), show r_31.toInt = 0 → x5.toInt < y5_19.toInt ∨ y7_19.toInt = 0 from (by first | assumption | omega), show r_31.toInt = 0 → x11.toInt = x11.toInt + 1 ∧ x11.toInt ≤ 5 from (by first | assumption | omega), show r_31.toInt = 0 → (∀ i : Int, 0 ≤ i → i ≠ x11.toInt → f4 i.toNat = f4 i.toNat) ∧ ((f4 x11.toInt.toNat).toInt = 0 ∨ (7 ≤ (f4 x11.toInt.toNat).toInt ∧ (f4 x11.toInt.toNat).toInt ≤ 10)) from (fun q => absurd q (by omega)), show r_31.toInt = 0 → (∀ i : Int, 0 ≤ i → i ≠ x11.toInt → f5 i.toNat = f5 i.toNat) ∧ 0 ≤ (f5 x11.toInt.toNat).toInt ∧ (f5 x11.toInt.toNat).toInt ≤ 9 from (fun q => absurd q (by omega)), show r_31.toInt = 0 → (∀ i : Int, 0 ≤ i → i ≠ x11.toInt + 1 → f6 i.toNat = f6 i.toNat) ∧ f6 (x11.toInt + 1).toNat = x10 from (fun q => absurd q (by omega))⟩) hP hD hQ (Nat.le_of_ble_eq_true rfl) (Nat.le_of_ble_eq_true rfl) dX11_opens_79
        · refine lv_aload_n hx hb dX11_opens_42 rfl (lv_at hl 2 rfl) ?_
          refine lv_iconst (v := 1) hx hb dX11_opens_43 (by decide) ?_
          refine lv_aload_n hx hb dX11_opens_44 rfl (lv_at hl 2 rfl) ?_
          refine va_get (D := D) (ci := 11) (v := .int x6) (C := RX11) (T := TX11) (N := 47) hx hb hts (by decide +kernel) hown hK.1 hP 0 rfl rfl 10 (by decide) (hts (.fieldLink RX11 120 "JugglingHallModel" "place" "I") (by decide +kernel)) (fun _ h9 => h9) rfl dX11_opens_45 ?_
          have hz_32 : (1 : Int32).toInt = 1 := by decide
          refine call_g (wr := []) (va_runV (As := [.int 1, .int x6]) (rest := []) ⟨hx, hb, hml, hown, hts⟩ (k_fails l D cI cR cM _  ) (cwV 2 hts gX11_opens_X11_fails rfl rfl rfl (by decide +kernel) ⟨Nat.le_of_ble_eq_true rfl, Nat.le_of_ble_eq_true rfl⟩) (pre_V hK hP hD 0 11 rfl rfl) rfl rfl hl.1 rfl (lv_room (Nat.le_of_ble_eq_true rfl)) dX11_opens_48 ⟨Nat.le_of_ble_eq_true rfl, Nat.le_of_ble_eq_true rfl⟩) hP hD hS hA [0, 1, 2, 3, 4, 5, 6, 7, 8, 9, 10, 11, 12, 13, 14, 15, 16, 17, 18, 19, 20, 21, 22, 23, 24, 25] [] (by with_unfolding_all rfl) rfl (by decide) (by decide) (fun u_33 H locs hw hP hD hS => ?_)
          obtain ⟨r_33, y9_33⟩ := u_33
          have hP : va_P D vwCl (mX mm q jn cI x0 x1 x2 x3 x4 x5 x6 x7 x8 y9_33 x10 x11 x12 x13 x14 x15 x16 x17 x18 x19 x20 f0 f1 f2 f3 f4 f5 f6 f7 f8 f9 f10 f11 f12 f13 f14 f15 f16 f17 f18 f19 f20 f21 f22 f23 f24) H := hP
          have hD : va_D A (mX mm q jn cI x0 x1 x2 x3 x4 x5 x6 x7 x8 y9_33 x10 x11 x12 x13 x14 x15 x16 x17 x18 x19 x20 f0 f1 f2 f3 f4 f5 f6 f7 f8 f9 f10 f11 f12 f13 f14 f15 f16 f17 f18 f19 f20 f21 f22 f23 f24) := hD
          have hr_33 : (r_33.toInt = (1 : Int32).toInt) := hw
          exact g_iret (r_33, x5, x6, x7, x8, y9_33, x11, f4, f5, f6) hx hb hr hlocks hS rfl (⟨show x5.toInt ≤ x5.toInt ∧ x5.toInt ≤ x2.toInt from (by first | assumption | omega), show TokOK x7 x8 from (by first | assumption | omega), show r_33.toInt = 0 → x5.toInt < x5.toInt ∨ x7.toInt = 0 from (by first | assumption | omega), show r_33.toInt = 0 → x11.toInt = x11.toInt + 1 ∧ x11.toInt ≤ 5 from (by first | assumption | omega), show r_33.toInt = 0 → (∀ i : Int, 0 ≤ i → i ≠ x11.toInt → f4 i.toNat = f4 i.toNat) ∧ ((f4 x11.toInt.toNat).toInt = 0 ∨ (7 ≤ (f4 x11.toInt.toNat).toInt ∧ (f4 x11.toInt.toNat).toInt ≤ 10)) from (fun q => absurd q (by omega)), show r_33.toInt = 0 → (∀ i : Int, 0 ≤ i → i ≠ x11.toInt → f5 i.toNat = f5 i.toNat) ∧ 0 ≤ (f5 x11.toInt.toNat).toInt ∧ (f5 x11.toInt.toNat).toInt ≤ 9 from (fun q => absurd q (by omega)), show r_33.toInt = 0 → (∀ i : Int, 0 ≤ i → i ≠ x11.toInt + 1 → f6 i.toNat = f6 i.toNat) ∧ f6 (x11.toInt + 1).toNat = x10 from (fun q => absurd q (by omega))⟩) hP hD hQ (Nat.le_of_ble_eq_true rfl) (Nat.le_of_ble_eq_true rfl) dX11_opens_51
    · refine lv_aload_n hx hb dX11_opens_22 rfl (lv_at hl 1 rfl) ?_
      refine call_g (wr := []) (va_runV (As := []) (rest := []) ⟨hx, hb, hml, hown, hts⟩ (k_next l D cI cR cM _  (by first | assumption | omega) (by first | assumption | omega)) (cwV 0 hts gX11_opens_X11_nextToken rfl rfl rfl (by decide +kernel) ⟨Nat.le_of_ble_eq_true rfl, Nat.le_of_ble_eq_true rfl⟩) (pre_V hK hP hD 0 11 rfl rfl) rfl rfl hl.1 rfl (lv_room (Nat.le_of_ble_eq_true rfl)) dX11_opens_23 ⟨Nat.le_of_ble_eq_true rfl, Nat.le_of_ble_eq_true rfl⟩) hP hD hS hA [0, 1, 2, 3, 4, 5, 6, 7, 8, 9, 10, 11, 12, 13, 14, 15, 16, 17, 18, 19, 20, 21, 22, 23, 24, 25] [] (by with_unfolding_all rfl) rfl (by decide) (by decide) (fun u_34 H locs hw hP hD hS => ?_)
      obtain ⟨y5_34, y6_34, y7_34, y8_34⟩ := u_34
      have hP : va_P D vwCl (mX mm q jn cI x0 x1 x2 x3 x4 y5_34 y6_34 y7_34 y8_34 x9 x10 x11 x12 x13 x14 x15 x16 x17 x18 x19 x20 f0 f1 f2 f3 f4 f5 f6 f7 f8 f9 f10 f11 f12 f13 f14 f15 f16 f17 f18 f19 f20 f21 f22 f23 f24) H := hP
      have hD : va_D A (mX mm q jn cI x0 x1 x2 x3 x4 y5_34 y6_34 y7_34 y8_34 x9 x10 x11 x12 x13 x14 x15 x16 x17 x18 x19 x20 f0 f1 f2 f3 f4 f5 f6 f7 f8 f9 f10 f11 f12 f13 f14 f15 f16 f17 f18 f19 f20 f21 f22 f23 f24) := hD
      obtain ⟨ha_34, hp_34, hk_34, hT_34⟩ : (x5.toInt ≤ y5_34.toInt ∧ y5_34.toInt ≤ x2.toInt) ∧ (0 ≤ y6_34.toInt ∧ y6_34.toInt ≤ 300) ∧ (y7_34.toInt = 0 ∨ x5.toInt < y5_34.toInt) ∧ (TokOK y7_34 y8_34) := hw
      refine lv_iconst (v := 0) hx hb dX11_opens_26 (by decide) ?_
      refine lv_istore_n (lv' := [(2, .int 0), (1, .int x7), (0, .ref mm)]) hx hb dX11_opens_27 rfl hl (by decide) rfl (fun ls hl => ?_)
      refine lv_iload_n hx hb dX11_opens_28 rfl (lv_at hl 1 rfl) ?_
      refine lv_bipush (v := 10) hx hb dX11_opens_29 (by decide) ?_
      refine a_icmp_ne (u := x7.toInt) (v := 10) (tgt := 61) hx hb dX11_opens_31 (by decide) (rfl) (by decide) (fun c_35 => ?_) (fun c_35 => ?_)
      · refine lv_aload_n hx hb dX11_opens_61 rfl (lv_at hl 2 rfl) ?_
        refine va_get (D := D) (ci := 11) (v := .int y7_34) (C := RX11) (T := TX11) (N := 47) hx hb hts (by decide +kernel) hown hK.1 hP 0 rfl rfl 11 (by decide) (hts (.fieldLink RX11 131 "JugglingHallModel" "token" "I") (by decide +kernel)) (fun _ h9 => h9) rfl dX11_opens_62 ?_
        refine lv_bipush (v := 40) hx hb dX11_opens_65 (by decide) ?_
        refine a_icmp_eq (u := y7_34.toInt) (v := 40) (tgt := 80) hx hb dX11_opens_67 (by decide) (rfl) (by decide) (fun c_36 => ?_) (fun c_36 => ?_)
        · refine lv_aload_n hx hb dX11_opens_80 rfl (lv_at hl 2 rfl) ?_
          refine va_get (D := D) (ci := 11) (v := .int x11) (C := RX11) (T := TX11) (N := 47) hx hb hts (by decide +kernel) hown hK.1 hP 0 rfl rfl 20 (by decide) (hts (.fieldLink RX11 154 "JugglingHallModel" "depth" "I") (by decide +kernel)) (fun _ h9 => h9) rfl dX11_opens_81 ?_
          refine lv_iconst (v := 5) hx hb dX11_opens_84 (by decide) ?_
          refine a_icmp_ne (u := x11.toInt) (v := 5) (tgt := 98) hx hb dX11_opens_85 (by decide) (rfl) (by decide) (fun c_37 => ?_) (fun c_37 => ?_)
          · refine lv_aload_n hx hb dX11_opens_98 rfl (lv_at hl 2 rfl) ?_
            refine va_get (D := D) (ci := 11) (v := .ref (q 4)) (C := RX11) (T := TX11) (N := 47) hx hb hts (by decide +kernel) hown hK.1 hP 0 rfl rfl 15 (by decide) (hts (.fieldLink RX11 30 "JugglingHallModel" "open" "[I") (by decide +kernel)) (fun _ h9 => h9) rfl dX11_opens_99 ?_
            refine lv_aload_n hx hb dX11_opens_102 rfl (lv_at hl 2 rfl) ?_
            refine va_get (D := D) (ci := 11) (v := .int x11) (C := RX11) (T := TX11) (N := 47) hx hb hts (by decide +kernel) hown hK.1 hP 0 rfl rfl 20 (by decide) (hts (.fieldLink RX11 154 "JugglingHallModel" "depth" "I") (by decide +kernel)) (fun _ h9 => h9) rfl dX11_opens_103 ?_
            refine lv_iload_n hx hb dX11_opens_106 rfl (lv_at hl 1 rfl) ?_
            refine ma_4 (u := x11.toInt) hx hb hK hP hD hS dX11_opens_107 (rfl) (by omega) (fun g_38 H locs eg_38 hP hD hS => ?_)
            have hs4 : (g_38 x11.toInt.toNat) = x7 := by rw [eg_38, pk_us]
            refine lv_aload_n hx hb dX11_opens_108 rfl (lv_at hl 2 rfl) ?_
            refine va_get (D := D) (ci := 11) (v := .ref (q 5)) (C := RX11) (T := TX11) (N := 47) hx hb hts (by decide +kernel) hown hK.1 hP 0 rfl rfl 16 (by decide) (hts (.fieldLink RX11 33 "JugglingHallModel" "digit" "[I") (by decide +kernel)) (fun _ h9 => h9) rfl dX11_opens_109 ?_
            refine lv_aload_n hx hb dX11_opens_112 rfl (lv_at hl 2 rfl) ?_
            refine va_get (D := D) (ci := 11) (v := .int x11) (C := RX11) (T := TX11) (N := 47) hx hb hts (by decide +kernel) hown hK.1 hP 0 rfl rfl 20 (by decide) (hts (.fieldLink RX11 154 "JugglingHallModel" "depth" "I") (by decide +kernel)) (fun _ h9 => h9) rfl dX11_opens_113 ?_
            refine lv_iload_n hx hb dX11_opens_116 rfl (lv_at hl 0 rfl) ?_
            refine ma_5 (u := x11.toInt) hx hb hK hP hD hS dX11_opens_117 (rfl) (by omega) (fun g_39 H locs eg_39 hP hD hS => ?_)
            have hs5 : (g_39 x11.toInt.toNat) = (0 : Int32) := by rw [eg_39, pk_us]
            have hz_40 : (0 : Int32).toInt = 0 := by decide
            refine lv_aload_n hx hb dX11_opens_118 rfl (lv_at hl 2 rfl) ?_
            refine lv_dup hx hb dX11_opens_119 rfl ?_
            refine va_get (D := D) (ci := 11) (v := .int x11) (C := RX11) (T := TX11) (N := 47) hx hb hts (by decide +kernel) hown hK.1 hP 0 rfl rfl 20 (by decide) (hts (.fieldLink RX11 154 "JugglingHallModel" "depth" "I") (by decide +kernel)) (fun _ h9 => h9) rfl dX11_opens_120 ?_
            refine lv_iconst (v := 1) hx hb dX11_opens_123 (by decide) ?_
            refine a_iadd (u := x11.toInt) (v := 1) hx hb dX11_opens_124 (rfl) (by decide) (by omega) (fun z_41 e_41 => ?_)
            refine mp_11 hx hb hts (by decide +kernel) hown hK hP hD hS (hts (.fieldLink RX11 154 "JugglingHallModel" "depth" "I") (by decide +kernel)) dX11_opens_125 (fun H locs hP hD hS => ?_)
            refine lv_aload_n hx hb dX11_opens_128 rfl (lv_at hl 2 rfl) ?_
            refine va_get (D := D) (ci := 11) (v := .ref (q 6)) (C := RX11) (T := TX11) (N := 47) hx hb hts (by decide +kernel) hown hK.1 hP 0 rfl rfl 17 (by decide) (hts (.fieldLink RX11 36 "JugglingHallModel" "starts" "[I") (by decide +kernel)) (fun _ h9 => h9) rfl dX11_opens_129 ?_
            refine lv_aload_n hx hb dX11_opens_132 rfl (lv_at hl 2 rfl) ?_
            refine va_get (D := D) (ci := 11) (v := .int z_41) (C := RX11) (T := TX11) (N := 47) hx hb hts (by decide +kernel) hown hK.1 hP 0 rfl rfl 20 (by decide) (hts (.fieldLink RX11 154 "JugglingHallModel" "depth" "I") (by decide +kernel)) (fun _ h9 => h9) rfl dX11_opens_133 ?_
            refine lv_aload_n hx hb dX11_opens_136 rfl (lv_at hl 2 rfl) ?_
            refine va_get (D := D) (ci := 11) (v := .int x10) (C := RX11) (T := TX11) (N := 47) hx hb hts (by decide +kernel) hown hK.1 hP 0 rfl rfl 19 (by decide) (hts (.fieldLink RX11 151 "JugglingHallModel" "top" "I") (by decide +kernel)) (fun _ h9 => h9) rfl dX11_opens_137 ?_
            refine ma_6 (u := (x11.toInt + 1)) hx hb hK hP hD hS dX11_opens_140 (e_41) (by omega) (fun g_42 H locs eg_42 hP hD hS => ?_)
            have hx6 : z_41.toInt = x11.toInt + 1 := by omega
            have hs6 : (g_42 (x11.toInt + 1).toNat) = x10 := by rw [eg_42, show (x11.toInt + 1) = x11.toInt + 1 by omega, pk_us]
            refine lv_aload_n hx hb dX11_opens_141 rfl (lv_at hl 2 rfl) ?_
            refine call_g (wr := []) (va_runV (As := []) (rest := []) ⟨hx, hb, hml, hown, hts⟩ (k_next l D cI cR cM _  (by first | assumption | omega) (by first | assumption | omega)) (cwV 0 hts gX11_opens_X11_nextToken rfl rfl rfl (by decide +kernel) ⟨Nat.le_of_ble_eq_true rfl, Nat.le_of_ble_eq_true rfl⟩) (pre_V hK hP hD 0 11 rfl rfl) rfl rfl hl.1 rfl (lv_room (Nat.le_of_ble_eq_true rfl)) dX11_opens_142 ⟨Nat.le_of_ble_eq_true rfl, Nat.le_of_ble_eq_true rfl⟩) hP hD hS hA [0, 1, 2, 3, 4, 5, 6, 7, 8, 9, 10, 11, 12, 13, 14, 15, 16, 17, 18, 19, 20, 21, 22, 23, 24, 25] [] (by with_unfolding_all rfl) rfl (by decide) (by decide) (fun u_43 H locs hw hP hD hS => ?_)
            obtain ⟨y5_43, y6_43, y7_43, y8_43⟩ := u_43
            have hP : va_P D vwCl (mX mm q jn cI x0 x1 x2 x3 x4 y5_43 y6_43 y7_43 y8_43 x9 x10 z_41 x12 x13 x14 x15 x16 x17 x18 x19 x20 f0 f1 f2 f3 g_38 g_39 g_42 f7 f8 f9 f10 f11 f12 f13 f14 f15 f16 f17 f18 f19 f20 f21 f22 f23 f24) H := hP
            have hD : va_D A (mX mm q jn cI x0 x1 x2 x3 x4 y5_43 y6_43 y7_43 y8_43 x9 x10 z_41 x12 x13 x14 x15 x16 x17 x18 x19 x20 f0 f1 f2 f3 g_38 g_39 g_42 f7 f8 f9 f10 f11 f12 f13 f14 f15 f16 f17 f18 f19 f20 f21 f22 f23 f24) := hD
            obtain ⟨ha_43, hp_43, hk_43, hT_43⟩ : (y5_34.toInt ≤ y5_43.toInt ∧ y5_43.toInt ≤ x2.toInt) ∧ (0 ≤ y6_43.toInt ∧ y6_43.toInt ≤ 300) ∧ (y7_43.toInt = 0 ∨ y5_34.toInt < y5_43.toInt) ∧ (TokOK y7_43 y8_43) := hw
            refine lv_iconst (v := 0) hx hb dX11_opens_145 (by decide) ?_
            have hz_44 : (0 : Int32).toInt = 0 := by decide
            exact g_iret ((0 : Int32), y5_43, y6_43, y7_43, y8_43, x9, z_41, g_38, g_39, g_42) hx hb hr hlocks hS rfl (⟨show x5.toInt ≤ y5_43.toInt ∧ y5_43.toInt ≤ x2.toInt from (by first | assumption | omega), show TokOK y7_43 y8_43 from (by first | assumption | omega), show (0 : Int32).toInt = 0 → x5.toInt < y5_43.toInt ∨ y7_43.toInt = 0 from (by first | assumption | omega), show (0 : Int32).toInt = 0 → z_41.toInt = x11.toInt + 1 ∧ z_41.toInt ≤ 5 from (by first | assumption | omega), show (0 : Int32).toInt = 0 → (∀ i : Int, 0 ≤ i → i ≠ x11.toInt → g_38 i.toNat = f4 i.toNat) ∧ ((g_38 x11.toInt.toNat).toInt = 0 ∨ (7 ≤ (g_38 x11.toInt.toNat).toInt ∧ (g_38 x11.toInt.toNat).toInt ≤ 10)) from (fun _ => ⟨fun i i0 i1 => by rw [eg_38, un_i i0 (by omega) i1], by rw [hs4]; omega⟩), show (0 : Int32).toInt = 0 → (∀ i : Int, 0 ≤ i → i ≠ x11.toInt → g_39 i.toNat = f5 i.toNat) ∧ 0 ≤ (g_39 x11.toInt.toNat).toInt ∧ (g_39 x11.toInt.toNat).toInt ≤ 9 from (fun _ => ⟨fun i i0 i1 => by rw [eg_39, un_i i0 (by omega) i1], by rw [hs5]; omega⟩), show (0 : Int32).toInt = 0 → (∀ i : Int, 0 ≤ i → i ≠ x11.toInt + 1 → g_42 i.toNat = f6 i.toNat) ∧ g_42 (x11.toInt + 1).toNat = x10 from (fun _ => ⟨fun i i0 i1 => by rw [eg_42, un_i i0 (by omega) (by omega)], hs6⟩)⟩) hP hD hQ (Nat.le_of_ble_eq_true rfl) (Nat.le_of_ble_eq_true rfl) dX11_opens_146
          · refine lv_aload_n hx hb dX11_opens_88 rfl (lv_at hl 2 rfl) ?_
            refine lv_iconst (v := 3) hx hb dX11_opens_89 (by decide) ?_
            refine lv_aload_n hx hb dX11_opens_90 rfl (lv_at hl 2 rfl) ?_
            refine va_get (D := D) (ci := 11) (v := .int y6_34) (C := RX11) (T := TX11) (N := 47) hx hb hts (by decide +kernel) hown hK.1 hP 0 rfl rfl 10 (by decide) (hts (.fieldLink RX11 120 "JugglingHallModel" "place" "I") (by decide +kernel)) (fun _ h9 => h9) rfl dX11_opens_91 ?_
            have hz_45 : (3 : Int32).toInt = 3 := by decide
            refine call_g (wr := []) (va_runV (As := [.int 3, .int y6_34]) (rest := []) ⟨hx, hb, hml, hown, hts⟩ (k_fails l D cI cR cM _  ) (cwV 2 hts gX11_opens_X11_fails rfl rfl rfl (by decide +kernel) ⟨Nat.le_of_ble_eq_true rfl, Nat.le_of_ble_eq_true rfl⟩) (pre_V hK hP hD 0 11 rfl rfl) rfl rfl hl.1 rfl (lv_room (Nat.le_of_ble_eq_true rfl)) dX11_opens_94 ⟨Nat.le_of_ble_eq_true rfl, Nat.le_of_ble_eq_true rfl⟩) hP hD hS hA [0, 1, 2, 3, 4, 5, 6, 7, 8, 9, 10, 11, 12, 13, 14, 15, 16, 17, 18, 19, 20, 21, 22, 23, 24, 25] [] (by with_unfolding_all rfl) rfl (by decide) (by decide) (fun u_46 H locs hw hP hD hS => ?_)
            obtain ⟨r_46, y9_46⟩ := u_46
            have hP : va_P D vwCl (mX mm q jn cI x0 x1 x2 x3 x4 y5_34 y6_34 y7_34 y8_34 y9_46 x10 x11 x12 x13 x14 x15 x16 x17 x18 x19 x20 f0 f1 f2 f3 f4 f5 f6 f7 f8 f9 f10 f11 f12 f13 f14 f15 f16 f17 f18 f19 f20 f21 f22 f23 f24) H := hP
            have hD : va_D A (mX mm q jn cI x0 x1 x2 x3 x4 y5_34 y6_34 y7_34 y8_34 y9_46 x10 x11 x12 x13 x14 x15 x16 x17 x18 x19 x20 f0 f1 f2 f3 f4 f5 f6 f7 f8 f9 f10 f11 f12 f13 f14 f15 f16 f17 f18 f19 f20 f21 f22 f23 f24) := hD
            have hr_46 : (r_46.toInt = (3 : Int32).toInt) := hw
            exact g_iret (r_46, y5_34, y6_34, y7_34, y8_34, y9_46, x11, f4, f5, f6) hx hb hr hlocks hS rfl (⟨show x5.toInt ≤ y5_34.toInt ∧ y5_34.toInt ≤ x2.toInt from (by first | assumption | omega), show TokOK y7_34 y8_34 from (by first | assumption | omega), show r_46.toInt = 0 → x5.toInt < y5_34.toInt ∨ y7_34.toInt = 0 from (by first | assumption | omega), show r_46.toInt = 0 → x11.toInt = x11.toInt + 1 ∧ x11.toInt ≤ 5 from (by first | assumption | omega), show r_46.toInt = 0 → (∀ i : Int, 0 ≤ i → i ≠ x11.toInt → f4 i.toNat = f4 i.toNat) ∧ ((f4 x11.toInt.toNat).toInt = 0 ∨ (7 ≤ (f4 x11.toInt.toNat).toInt ∧ (f4 x11.toInt.toNat).toInt ≤ 10)) from (fun q => absurd q (by omega)), show r_46.toInt = 0 → (∀ i : Int, 0 ≤ i → i ≠ x11.toInt → f5 i.toNat = f5 i.toNat) ∧ 0 ≤ (f5 x11.toInt.toNat).toInt ∧ (f5 x11.toInt.toNat).toInt ≤ 9 from (fun q => absurd q (by omega)), show r_46.toInt = 0 → (∀ i : Int, 0 ≤ i → i ≠ x11.toInt + 1 → f6 i.toNat = f6 i.toNat) ∧ f6 (x11.toInt + 1).toNat = x10 from (fun q => absurd q (by omega))⟩) hP hD hQ (Nat.le_of_ble_eq_true rfl) (Nat.le_of_ble_eq_true rfl) dX11_opens_97
        · refine lv_aload_n hx hb dX11_opens_70 rfl (lv_at hl 2 rfl) ?_
          refine lv_iconst (v := 1) hx hb dX11_opens_71 (by decide) ?_
          refine lv_aload_n hx hb dX11_opens_72 rfl (lv_at hl 2 rfl) ?_
          refine va_get (D := D) (ci := 11) (v := .int y6_34) (C := RX11) (T := TX11) (N := 47) hx hb hts (by decide +kernel) hown hK.1 hP 0 rfl rfl 10 (by decide) (hts (.fieldLink RX11 120 "JugglingHallModel" "place" "I") (by decide +kernel)) (fun _ h9 => h9) rfl dX11_opens_73 ?_
          have hz_47 : (1 : Int32).toInt = 1 := by decide
          refine call_g (wr := []) (va_runV (As := [.int 1, .int y6_34]) (rest := []) ⟨hx, hb, hml, hown, hts⟩ (k_fails l D cI cR cM _  ) (cwV 2 hts gX11_opens_X11_fails rfl rfl rfl (by decide +kernel) ⟨Nat.le_of_ble_eq_true rfl, Nat.le_of_ble_eq_true rfl⟩) (pre_V hK hP hD 0 11 rfl rfl) rfl rfl hl.1 rfl (lv_room (Nat.le_of_ble_eq_true rfl)) dX11_opens_76 ⟨Nat.le_of_ble_eq_true rfl, Nat.le_of_ble_eq_true rfl⟩) hP hD hS hA [0, 1, 2, 3, 4, 5, 6, 7, 8, 9, 10, 11, 12, 13, 14, 15, 16, 17, 18, 19, 20, 21, 22, 23, 24, 25] [] (by with_unfolding_all rfl) rfl (by decide) (by decide) (fun u_48 H locs hw hP hD hS => ?_)
          obtain ⟨r_48, y9_48⟩ := u_48
          have hP : va_P D vwCl (mX mm q jn cI x0 x1 x2 x3 x4 y5_34 y6_34 y7_34 y8_34 y9_48 x10 x11 x12 x13 x14 x15 x16 x17 x18 x19 x20 f0 f1 f2 f3 f4 f5 f6 f7 f8 f9 f10 f11 f12 f13 f14 f15 f16 f17 f18 f19 f20 f21 f22 f23 f24) H := hP
          have hD : va_D A (mX mm q jn cI x0 x1 x2 x3 x4 y5_34 y6_34 y7_34 y8_34 y9_48 x10 x11 x12 x13 x14 x15 x16 x17 x18 x19 x20 f0 f1 f2 f3 f4 f5 f6 f7 f8 f9 f10 f11 f12 f13 f14 f15 f16 f17 f18 f19 f20 f21 f22 f23 f24) := hD
          have hr_48 : (r_48.toInt = (1 : Int32).toInt) := hw
          exact g_iret (r_48, y5_34, y6_34, y7_34, y8_34, y9_48, x11, f4, f5, f6) hx hb hr hlocks hS rfl (⟨show x5.toInt ≤ y5_34.toInt ∧ y5_34.toInt ≤ x2.toInt from (by first | assumption | omega), show TokOK y7_34 y8_34 from (by first | assumption | omega), show r_48.toInt = 0 → x5.toInt < y5_34.toInt ∨ y7_34.toInt = 0 from (by first | assumption | omega), show r_48.toInt = 0 → x11.toInt = x11.toInt + 1 ∧ x11.toInt ≤ 5 from (by first | assumption | omega), show r_48.toInt = 0 → (∀ i : Int, 0 ≤ i → i ≠ x11.toInt → f4 i.toNat = f4 i.toNat) ∧ ((f4 x11.toInt.toNat).toInt = 0 ∨ (7 ≤ (f4 x11.toInt.toNat).toInt ∧ (f4 x11.toInt.toNat).toInt ≤ 10)) from (fun q => absurd q (by omega)), show r_48.toInt = 0 → (∀ i : Int, 0 ≤ i → i ≠ x11.toInt → f5 i.toNat = f5 i.toNat) ∧ 0 ≤ (f5 x11.toInt.toNat).toInt ∧ (f5 x11.toInt.toNat).toInt ≤ 9 from (fun q => absurd q (by omega)), show r_48.toInt = 0 → (∀ i : Int, 0 ≤ i → i ≠ x11.toInt + 1 → f6 i.toNat = f6 i.toNat) ∧ f6 (x11.toInt + 1).toNat = x10 from (fun q => absurd q (by omega))⟩) hP hD hQ (Nat.le_of_ble_eq_true rfl) (Nat.le_of_ble_eq_true rfl) dX11_opens_79
      · refine lv_aload_n hx hb dX11_opens_34 rfl (lv_at hl 2 rfl) ?_
        refine va_get (D := D) (ci := 11) (v := .int y7_34) (C := RX11) (T := TX11) (N := 47) hx hb hts (by decide +kernel) hown hK.1 hP 0 rfl rfl 11 (by decide) (hts (.fieldLink RX11 131 "JugglingHallModel" "token" "I") (by decide +kernel)) (fun _ h9 => h9) rfl dX11_opens_35 ?_
        refine lv_iconst (v := 1) hx hb dX11_opens_38 (by decide) ?_
        refine a_icmp_eq (u := y7_34.toInt) (v := 1) (tgt := 52) hx hb dX11_opens_39 (by decide) (rfl) (by decide) (fun c_49 => ?_) (fun c_49 => ?_)
        · have hv50 := hT_34.2.1 (by omega)
          refine lv_aload_n hx hb dX11_opens_52 rfl (lv_at hl 2 rfl) ?_
          refine va_get (D := D) (ci := 11) (v := .int y8_34) (C := RX11) (T := TX11) (N := 47) hx hb hts (by decide +kernel) hown hK.1 hP 0 rfl rfl 12 (by decide) (hts (.fieldLink RX11 138 "JugglingHallModel" "value" "I") (by decide +kernel)) (fun _ h9 => h9) rfl dX11_opens_53 ?_
          refine lv_istore_n (lv' := [(2, .int y8_34), (1, .int x7), (0, .ref mm)]) hx hb dX11_opens_56 rfl hl (by decide) rfl (fun ls hl => ?_)
          refine lv_aload_n hx hb dX11_opens_57 rfl (lv_at hl 2 rfl) ?_
          refine call_g (wr := []) (va_runV (As := []) (rest := []) ⟨hx, hb, hml, hown, hts⟩ (k_next l D cI cR cM _  (by first | assumption | omega) (by first | assumption | omega)) (cwV 0 hts gX11_opens_X11_nextToken rfl rfl rfl (by decide +kernel) ⟨Nat.le_of_ble_eq_true rfl, Nat.le_of_ble_eq_true rfl⟩) (pre_V hK hP hD 0 11 rfl rfl) rfl rfl hl.1 rfl (lv_room (Nat.le_of_ble_eq_true rfl)) dX11_opens_58 ⟨Nat.le_of_ble_eq_true rfl, Nat.le_of_ble_eq_true rfl⟩) hP hD hS hA [0, 1, 2, 3, 4, 5, 6, 7, 8, 9, 10, 11, 12, 13, 14, 15, 16, 17, 18, 19, 20, 21, 22, 23, 24, 25] [] (by with_unfolding_all rfl) rfl (by decide) (by decide) (fun u_51 H locs hw hP hD hS => ?_)
          obtain ⟨y5_51, y6_51, y7_51, y8_51⟩ := u_51
          have hP : va_P D vwCl (mX mm q jn cI x0 x1 x2 x3 x4 y5_51 y6_51 y7_51 y8_51 x9 x10 x11 x12 x13 x14 x15 x16 x17 x18 x19 x20 f0 f1 f2 f3 f4 f5 f6 f7 f8 f9 f10 f11 f12 f13 f14 f15 f16 f17 f18 f19 f20 f21 f22 f23 f24) H := hP
          have hD : va_D A (mX mm q jn cI x0 x1 x2 x3 x4 y5_51 y6_51 y7_51 y8_51 x9 x10 x11 x12 x13 x14 x15 x16 x17 x18 x19 x20 f0 f1 f2 f3 f4 f5 f6 f7 f8 f9 f10 f11 f12 f13 f14 f15 f16 f17 f18 f19 f20 f21 f22 f23 f24) := hD
          obtain ⟨ha_51, hp_51, hk_51, hT_51⟩ : (y5_34.toInt ≤ y5_51.toInt ∧ y5_51.toInt ≤ x2.toInt) ∧ (0 ≤ y6_51.toInt ∧ y6_51.toInt ≤ 300) ∧ (y7_51.toInt = 0 ∨ y5_34.toInt < y5_51.toInt) ∧ (TokOK y7_51 y8_51) := hw
          refine lv_aload_n hx hb dX11_opens_61 rfl (lv_at hl 2 rfl) ?_
          refine va_get (D := D) (ci := 11) (v := .int y7_51) (C := RX11) (T := TX11) (N := 47) hx hb hts (by decide +kernel) hown hK.1 hP 0 rfl rfl 11 (by decide) (hts (.fieldLink RX11 131 "JugglingHallModel" "token" "I") (by decide +kernel)) (fun _ h9 => h9) rfl dX11_opens_62 ?_
          refine lv_bipush (v := 40) hx hb dX11_opens_65 (by decide) ?_
          refine a_icmp_eq (u := y7_51.toInt) (v := 40) (tgt := 80) hx hb dX11_opens_67 (by decide) (rfl) (by decide) (fun c_52 => ?_) (fun c_52 => ?_)
          · refine lv_aload_n hx hb dX11_opens_80 rfl (lv_at hl 2 rfl) ?_
            refine va_get (D := D) (ci := 11) (v := .int x11) (C := RX11) (T := TX11) (N := 47) hx hb hts (by decide +kernel) hown hK.1 hP 0 rfl rfl 20 (by decide) (hts (.fieldLink RX11 154 "JugglingHallModel" "depth" "I") (by decide +kernel)) (fun _ h9 => h9) rfl dX11_opens_81 ?_
            refine lv_iconst (v := 5) hx hb dX11_opens_84 (by decide) ?_
            refine a_icmp_ne (u := x11.toInt) (v := 5) (tgt := 98) hx hb dX11_opens_85 (by decide) (rfl) (by decide) (fun c_53 => ?_) (fun c_53 => ?_)
            · refine lv_aload_n hx hb dX11_opens_98 rfl (lv_at hl 2 rfl) ?_
              refine va_get (D := D) (ci := 11) (v := .ref (q 4)) (C := RX11) (T := TX11) (N := 47) hx hb hts (by decide +kernel) hown hK.1 hP 0 rfl rfl 15 (by decide) (hts (.fieldLink RX11 30 "JugglingHallModel" "open" "[I") (by decide +kernel)) (fun _ h9 => h9) rfl dX11_opens_99 ?_
              refine lv_aload_n hx hb dX11_opens_102 rfl (lv_at hl 2 rfl) ?_
              refine va_get (D := D) (ci := 11) (v := .int x11) (C := RX11) (T := TX11) (N := 47) hx hb hts (by decide +kernel) hown hK.1 hP 0 rfl rfl 20 (by decide) (hts (.fieldLink RX11 154 "JugglingHallModel" "depth" "I") (by decide +kernel)) (fun _ h9 => h9) rfl dX11_opens_103 ?_
              refine lv_iload_n hx hb dX11_opens_106 rfl (lv_at hl 1 rfl) ?_
              refine ma_4 (u := x11.toInt) hx hb hK hP hD hS dX11_opens_107 (rfl) (by omega) (fun g_54 H locs eg_54 hP hD hS => ?_)
              have hs4 : (g_54 x11.toInt.toNat) = x7 := by rw [eg_54, pk_us]
              refine lv_aload_n hx hb dX11_opens_108 rfl (lv_at hl 2 rfl) ?_
              refine va_get (D := D) (ci := 11) (v := .ref (q 5)) (C := RX11) (T := TX11) (N := 47) hx hb hts (by decide +kernel) hown hK.1 hP 0 rfl rfl 16 (by decide) (hts (.fieldLink RX11 33 "JugglingHallModel" "digit" "[I") (by decide +kernel)) (fun _ h9 => h9) rfl dX11_opens_109 ?_
              refine lv_aload_n hx hb dX11_opens_112 rfl (lv_at hl 2 rfl) ?_
              refine va_get (D := D) (ci := 11) (v := .int x11) (C := RX11) (T := TX11) (N := 47) hx hb hts (by decide +kernel) hown hK.1 hP 0 rfl rfl 20 (by decide) (hts (.fieldLink RX11 154 "JugglingHallModel" "depth" "I") (by decide +kernel)) (fun _ h9 => h9) rfl dX11_opens_113 ?_
              refine lv_iload_n hx hb dX11_opens_116 rfl (lv_at hl 0 rfl) ?_
              refine ma_5 (u := x11.toInt) hx hb hK hP hD hS dX11_opens_117 (rfl) (by omega) (fun g_55 H locs eg_55 hP hD hS => ?_)
              have hs5 : (g_55 x11.toInt.toNat) = y8_34 := by rw [eg_55, pk_us]
              refine lv_aload_n hx hb dX11_opens_118 rfl (lv_at hl 2 rfl) ?_
              refine lv_dup hx hb dX11_opens_119 rfl ?_
              refine va_get (D := D) (ci := 11) (v := .int x11) (C := RX11) (T := TX11) (N := 47) hx hb hts (by decide +kernel) hown hK.1 hP 0 rfl rfl 20 (by decide) (hts (.fieldLink RX11 154 "JugglingHallModel" "depth" "I") (by decide +kernel)) (fun _ h9 => h9) rfl dX11_opens_120 ?_
              refine lv_iconst (v := 1) hx hb dX11_opens_123 (by decide) ?_
              refine a_iadd (u := x11.toInt) (v := 1) hx hb dX11_opens_124 (rfl) (by decide) (by omega) (fun z_56 e_56 => ?_)
              refine mp_11 hx hb hts (by decide +kernel) hown hK hP hD hS (hts (.fieldLink RX11 154 "JugglingHallModel" "depth" "I") (by decide +kernel)) dX11_opens_125 (fun H locs hP hD hS => ?_)
              refine lv_aload_n hx hb dX11_opens_128 rfl (lv_at hl 2 rfl) ?_
              refine va_get (D := D) (ci := 11) (v := .ref (q 6)) (C := RX11) (T := TX11) (N := 47) hx hb hts (by decide +kernel) hown hK.1 hP 0 rfl rfl 17 (by decide) (hts (.fieldLink RX11 36 "JugglingHallModel" "starts" "[I") (by decide +kernel)) (fun _ h9 => h9) rfl dX11_opens_129 ?_
              refine lv_aload_n hx hb dX11_opens_132 rfl (lv_at hl 2 rfl) ?_
              refine va_get (D := D) (ci := 11) (v := .int z_56) (C := RX11) (T := TX11) (N := 47) hx hb hts (by decide +kernel) hown hK.1 hP 0 rfl rfl 20 (by decide) (hts (.fieldLink RX11 154 "JugglingHallModel" "depth" "I") (by decide +kernel)) (fun _ h9 => h9) rfl dX11_opens_133 ?_
              refine lv_aload_n hx hb dX11_opens_136 rfl (lv_at hl 2 rfl) ?_
              refine va_get (D := D) (ci := 11) (v := .int x10) (C := RX11) (T := TX11) (N := 47) hx hb hts (by decide +kernel) hown hK.1 hP 0 rfl rfl 19 (by decide) (hts (.fieldLink RX11 151 "JugglingHallModel" "top" "I") (by decide +kernel)) (fun _ h9 => h9) rfl dX11_opens_137 ?_
              refine ma_6 (u := (x11.toInt + 1)) hx hb hK hP hD hS dX11_opens_140 (e_56) (by omega) (fun g_57 H locs eg_57 hP hD hS => ?_)
              have hx6 : z_56.toInt = x11.toInt + 1 := by omega
              have hs6 : (g_57 (x11.toInt + 1).toNat) = x10 := by rw [eg_57, show (x11.toInt + 1) = x11.toInt + 1 by omega, pk_us]
              refine lv_aload_n hx hb dX11_opens_141 rfl (lv_at hl 2 rfl) ?_
              refine call_g (wr := []) (va_runV (As := []) (rest := []) ⟨hx, hb, hml, hown, hts⟩ (k_next l D cI cR cM _  (by first | assumption | omega) (by first | assumption | omega)) (cwV 0 hts gX11_opens_X11_nextToken rfl rfl rfl (by decide +kernel) ⟨Nat.le_of_ble_eq_true rfl, Nat.le_of_ble_eq_true rfl⟩) (pre_V hK hP hD 0 11 rfl rfl) rfl rfl hl.1 rfl (lv_room (Nat.le_of_ble_eq_true rfl)) dX11_opens_142 ⟨Nat.le_of_ble_eq_true rfl, Nat.le_of_ble_eq_true rfl⟩) hP hD hS hA [0, 1, 2, 3, 4, 5, 6, 7, 8, 9, 10, 11, 12, 13, 14, 15, 16, 17, 18, 19, 20, 21, 22, 23, 24, 25] [] (by with_unfolding_all rfl) rfl (by decide) (by decide) (fun u_58 H locs hw hP hD hS => ?_)
              obtain ⟨y5_58, y6_58, y7_58, y8_58⟩ := u_58
              have hP : va_P D vwCl (mX mm q jn cI x0 x1 x2 x3 x4 y5_58 y6_58 y7_58 y8_58 x9 x10 z_56 x12 x13 x14 x15 x16 x17 x18 x19 x20 f0 f1 f2 f3 g_54 g_55 g_57 f7 f8 f9 f10 f11 f12 f13 f14 f15 f16 f17 f18 f19 f20 f21 f22 f23 f24) H := hP
              have hD : va_D A (mX mm q jn cI x0 x1 x2 x3 x4 y5_58 y6_58 y7_58 y8_58 x9 x10 z_56 x12 x13 x14 x15 x16 x17 x18 x19 x20 f0 f1 f2 f3 g_54 g_55 g_57 f7 f8 f9 f10 f11 f12 f13 f14 f15 f16 f17 f18 f19 f20 f21 f22 f23 f24) := hD
              obtain ⟨ha_58, hp_58, hk_58, hT_58⟩ : (y5_51.toInt ≤ y5_58.toInt ∧ y5_58.toInt ≤ x2.toInt) ∧ (0 ≤ y6_58.toInt ∧ y6_58.toInt ≤ 300) ∧ (y7_58.toInt = 0 ∨ y5_51.toInt < y5_58.toInt) ∧ (TokOK y7_58 y8_58) := hw
              refine lv_iconst (v := 0) hx hb dX11_opens_145 (by decide) ?_
              have hz_59 : (0 : Int32).toInt = 0 := by decide
              exact g_iret ((0 : Int32), y5_58, y6_58, y7_58, y8_58, x9, z_56, g_54, g_55, g_57) hx hb hr hlocks hS rfl (⟨show x5.toInt ≤ y5_58.toInt ∧ y5_58.toInt ≤ x2.toInt from (by first | assumption | omega), show TokOK y7_58 y8_58 from (by first | assumption | omega), show (0 : Int32).toInt = 0 → x5.toInt < y5_58.toInt ∨ y7_58.toInt = 0 from (by first | assumption | omega), show (0 : Int32).toInt = 0 → z_56.toInt = x11.toInt + 1 ∧ z_56.toInt ≤ 5 from (by first | assumption | omega), show (0 : Int32).toInt = 0 → (∀ i : Int, 0 ≤ i → i ≠ x11.toInt → g_54 i.toNat = f4 i.toNat) ∧ ((g_54 x11.toInt.toNat).toInt = 0 ∨ (7 ≤ (g_54 x11.toInt.toNat).toInt ∧ (g_54 x11.toInt.toNat).toInt ≤ 10)) from (fun _ => ⟨fun i i0 i1 => by rw [eg_54, un_i i0 (by omega) i1], by rw [hs4]; omega⟩), show (0 : Int32).toInt = 0 → (∀ i : Int, 0 ≤ i → i ≠ x11.toInt → g_55 i.toNat = f5 i.toNat) ∧ 0 ≤ (g_55 x11.toInt.toNat).toInt ∧ (g_55 x11.toInt.toNat).toInt ≤ 9 from (fun _ => ⟨fun i i0 i1 => by rw [eg_55, un_i i0 (by omega) i1], by rw [hs5]; omega⟩), show (0 : Int32).toInt = 0 → (∀ i : Int, 0 ≤ i → i ≠ x11.toInt + 1 → g_57 i.toNat = f6 i.toNat) ∧ g_57 (x11.toInt + 1).toNat = x10 from (fun _ => ⟨fun i i0 i1 => by rw [eg_57, un_i i0 (by omega) (by omega)], hs6⟩)⟩) hP hD hQ (Nat.le_of_ble_eq_true rfl) (Nat.le_of_ble_eq_true rfl) dX11_opens_146
            · refine lv_aload_n hx hb dX11_opens_88 rfl (lv_at hl 2 rfl) ?_
              refine lv_iconst (v := 3) hx hb dX11_opens_89 (by decide) ?_
              refine lv_aload_n hx hb dX11_opens_90 rfl (lv_at hl 2 rfl) ?_
              refine va_get (D := D) (ci := 11) (v := .int y6_51) (C := RX11) (T := TX11) (N := 47) hx hb hts (by decide +kernel) hown hK.1 hP 0 rfl rfl 10 (by decide) (hts (.fieldLink RX11 120 "JugglingHallModel" "place" "I") (by decide +kernel)) (fun _ h9 => h9) rfl dX11_opens_91 ?_
              have hz_60 : (3 : Int32).toInt = 3 := by decide
              refine call_g (wr := []) (va_runV (As := [.int 3, .int y6_51]) (rest := []) ⟨hx, hb, hml, hown, hts⟩ (k_fails l D cI cR cM _  ) (cwV 2 hts gX11_opens_X11_fails rfl rfl rfl (by decide +kernel) ⟨Nat.le_of_ble_eq_true rfl, Nat.le_of_ble_eq_true rfl⟩) (pre_V hK hP hD 0 11 rfl rfl) rfl rfl hl.1 rfl (lv_room (Nat.le_of_ble_eq_true rfl)) dX11_opens_94 ⟨Nat.le_of_ble_eq_true rfl, Nat.le_of_ble_eq_true rfl⟩) hP hD hS hA [0, 1, 2, 3, 4, 5, 6, 7, 8, 9, 10, 11, 12, 13, 14, 15, 16, 17, 18, 19, 20, 21, 22, 23, 24, 25] [] (by with_unfolding_all rfl) rfl (by decide) (by decide) (fun u_61 H locs hw hP hD hS => ?_)
              obtain ⟨r_61, y9_61⟩ := u_61
              have hP : va_P D vwCl (mX mm q jn cI x0 x1 x2 x3 x4 y5_51 y6_51 y7_51 y8_51 y9_61 x10 x11 x12 x13 x14 x15 x16 x17 x18 x19 x20 f0 f1 f2 f3 f4 f5 f6 f7 f8 f9 f10 f11 f12 f13 f14 f15 f16 f17 f18 f19 f20 f21 f22 f23 f24) H := hP
              have hD : va_D A (mX mm q jn cI x0 x1 x2 x3 x4 y5_51 y6_51 y7_51 y8_51 y9_61 x10 x11 x12 x13 x14 x15 x16 x17 x18 x19 x20 f0 f1 f2 f3 f4 f5 f6 f7 f8 f9 f10 f11 f12 f13 f14 f15 f16 f17 f18 f19 f20 f21 f22 f23 f24) := hD
              have hr_61 : (r_61.toInt = (3 : Int32).toInt) := hw
              exact g_iret (r_61, y5_51, y6_51, y7_51, y8_51, y9_61, x11, f4, f5, f6) hx hb hr hlocks hS rfl (⟨show x5.toInt ≤ y5_51.toInt ∧ y5_51.toInt ≤ x2.toInt from (by first | assumption | omega), show TokOK y7_51 y8_51 from (by first | assumption | omega), show r_61.toInt = 0 → x5.toInt < y5_51.toInt ∨ y7_51.toInt = 0 from (by first | assumption | omega), show r_61.toInt = 0 → x11.toInt = x11.toInt + 1 ∧ x11.toInt ≤ 5 from (by first | assumption | omega), show r_61.toInt = 0 → (∀ i : Int, 0 ≤ i → i ≠ x11.toInt → f4 i.toNat = f4 i.toNat) ∧ ((f4 x11.toInt.toNat).toInt = 0 ∨ (7 ≤ (f4 x11.toInt.toNat).toInt ∧ (f4 x11.toInt.toNat).toInt ≤ 10)) from (fun q => absurd q (by omega)), show r_61.toInt = 0 → (∀ i : Int, 0 ≤ i → i ≠ x11.toInt → f5 i.toNat = f5 i.toNat) ∧ 0 ≤ (f5 x11.toInt.toNat).toInt ∧ (f5 x11.toInt.toNat).toInt ≤ 9 from (fun q => absurd q (by omega)), show r_61.toInt = 0 → (∀ i : Int, 0 ≤ i → i ≠ x11.toInt + 1 → f6 i.toNat = f6 i.toNat) ∧ f6 (x11.toInt + 1).toNat = x10 from (fun q => absurd q (by omega))⟩) hP hD hQ (Nat.le_of_ble_eq_true rfl) (Nat.le_of_ble_eq_true rfl) dX11_opens_97
          · refine lv_aload_n hx hb dX11_opens_70 rfl (lv_at hl 2 rfl) ?_
            refine lv_iconst (v := 1) hx hb dX11_opens_71 (by decide) ?_
            refine lv_aload_n hx hb dX11_opens_72 rfl (lv_at hl 2 rfl) ?_
            refine va_get (D := D) (ci := 11) (v := .int y6_51) (C := RX11) (T := TX11) (N := 47) hx hb hts (by decide +kernel) hown hK.1 hP 0 rfl rfl 10 (by decide) (hts (.fieldLink RX11 120 "JugglingHallModel" "place" "I") (by decide +kernel)) (fun _ h9 => h9) rfl dX11_opens_73 ?_
            have hz_62 : (1 : Int32).toInt = 1 := by decide
            refine call_g (wr := []) (va_runV (As := [.int 1, .int y6_51]) (rest := []) ⟨hx, hb, hml, hown, hts⟩ (k_fails l D cI cR cM _  ) (cwV 2 hts gX11_opens_X11_fails rfl rfl rfl (by decide +kernel) ⟨Nat.le_of_ble_eq_true rfl, Nat.le_of_ble_eq_true rfl⟩) (pre_V hK hP hD 0 11 rfl rfl) rfl rfl hl.1 rfl (lv_room (Nat.le_of_ble_eq_true rfl)) dX11_opens_76 ⟨Nat.le_of_ble_eq_true rfl, Nat.le_of_ble_eq_true rfl⟩) hP hD hS hA [0, 1, 2, 3, 4, 5, 6, 7, 8, 9, 10, 11, 12, 13, 14, 15, 16, 17, 18, 19, 20, 21, 22, 23, 24, 25] [] (by with_unfolding_all rfl) rfl (by decide) (by decide) (fun u_63 H locs hw hP hD hS => ?_)
            obtain ⟨r_63, y9_63⟩ := u_63
            have hP : va_P D vwCl (mX mm q jn cI x0 x1 x2 x3 x4 y5_51 y6_51 y7_51 y8_51 y9_63 x10 x11 x12 x13 x14 x15 x16 x17 x18 x19 x20 f0 f1 f2 f3 f4 f5 f6 f7 f8 f9 f10 f11 f12 f13 f14 f15 f16 f17 f18 f19 f20 f21 f22 f23 f24) H := hP
            have hD : va_D A (mX mm q jn cI x0 x1 x2 x3 x4 y5_51 y6_51 y7_51 y8_51 y9_63 x10 x11 x12 x13 x14 x15 x16 x17 x18 x19 x20 f0 f1 f2 f3 f4 f5 f6 f7 f8 f9 f10 f11 f12 f13 f14 f15 f16 f17 f18 f19 f20 f21 f22 f23 f24) := hD
            have hr_63 : (r_63.toInt = (1 : Int32).toInt) := hw
            exact g_iret (r_63, y5_51, y6_51, y7_51, y8_51, y9_63, x11, f4, f5, f6) hx hb hr hlocks hS rfl (⟨show x5.toInt ≤ y5_51.toInt ∧ y5_51.toInt ≤ x2.toInt from (by first | assumption | omega), show TokOK y7_51 y8_51 from (by first | assumption | omega), show r_63.toInt = 0 → x5.toInt < y5_51.toInt ∨ y7_51.toInt = 0 from (by first | assumption | omega), show r_63.toInt = 0 → x11.toInt = x11.toInt + 1 ∧ x11.toInt ≤ 5 from (by first | assumption | omega), show r_63.toInt = 0 → (∀ i : Int, 0 ≤ i → i ≠ x11.toInt → f4 i.toNat = f4 i.toNat) ∧ ((f4 x11.toInt.toNat).toInt = 0 ∨ (7 ≤ (f4 x11.toInt.toNat).toInt ∧ (f4 x11.toInt.toNat).toInt ≤ 10)) from (fun q => absurd q (by omega)), show r_63.toInt = 0 → (∀ i : Int, 0 ≤ i → i ≠ x11.toInt → f5 i.toNat = f5 i.toNat) ∧ 0 ≤ (f5 x11.toInt.toNat).toInt ∧ (f5 x11.toInt.toNat).toInt ≤ 9 from (fun q => absurd q (by omega)), show r_63.toInt = 0 → (∀ i : Int, 0 ≤ i → i ≠ x11.toInt + 1 → f6 i.toNat = f6 i.toNat) ∧ f6 (x11.toInt + 1).toNat = x10 from (fun q => absurd q (by omega))⟩) hP hD hQ (Nat.le_of_ble_eq_true rfl) (Nat.le_of_ble_eq_true rfl) dX11_opens_79
        · refine lv_aload_n hx hb dX11_opens_42 rfl (lv_at hl 2 rfl) ?_
          refine lv_iconst (v := 1) hx hb dX11_opens_43 (by decide) ?_
          refine lv_aload_n hx hb dX11_opens_44 rfl (lv_at hl 2 rfl) ?_
          refine va_get (D := D) (ci := 11) (v := .int y6_34) (C := RX11) (T := TX11) (N := 47) hx hb hts (by decide +kernel) hown hK.1 hP 0 rfl rfl 10 (by decide) (hts (.fieldLink RX11 120 "JugglingHallModel" "place" "I") (by decide +kernel)) (fun _ h9 => h9) rfl dX11_opens_45 ?_
          have hz_64 : (1 : Int32).toInt = 1 := by decide
          refine call_g (wr := []) (va_runV (As := [.int 1, .int y6_34]) (rest := []) ⟨hx, hb, hml, hown, hts⟩ (k_fails l D cI cR cM _  ) (cwV 2 hts gX11_opens_X11_fails rfl rfl rfl (by decide +kernel) ⟨Nat.le_of_ble_eq_true rfl, Nat.le_of_ble_eq_true rfl⟩) (pre_V hK hP hD 0 11 rfl rfl) rfl rfl hl.1 rfl (lv_room (Nat.le_of_ble_eq_true rfl)) dX11_opens_48 ⟨Nat.le_of_ble_eq_true rfl, Nat.le_of_ble_eq_true rfl⟩) hP hD hS hA [0, 1, 2, 3, 4, 5, 6, 7, 8, 9, 10, 11, 12, 13, 14, 15, 16, 17, 18, 19, 20, 21, 22, 23, 24, 25] [] (by with_unfolding_all rfl) rfl (by decide) (by decide) (fun u_65 H locs hw hP hD hS => ?_)
          obtain ⟨r_65, y9_65⟩ := u_65
          have hP : va_P D vwCl (mX mm q jn cI x0 x1 x2 x3 x4 y5_34 y6_34 y7_34 y8_34 y9_65 x10 x11 x12 x13 x14 x15 x16 x17 x18 x19 x20 f0 f1 f2 f3 f4 f5 f6 f7 f8 f9 f10 f11 f12 f13 f14 f15 f16 f17 f18 f19 f20 f21 f22 f23 f24) H := hP
          have hD : va_D A (mX mm q jn cI x0 x1 x2 x3 x4 y5_34 y6_34 y7_34 y8_34 y9_65 x10 x11 x12 x13 x14 x15 x16 x17 x18 x19 x20 f0 f1 f2 f3 f4 f5 f6 f7 f8 f9 f10 f11 f12 f13 f14 f15 f16 f17 f18 f19 f20 f21 f22 f23 f24) := hD
          have hr_65 : (r_65.toInt = (1 : Int32).toInt) := hw
          exact g_iret (r_65, y5_34, y6_34, y7_34, y8_34, y9_65, x11, f4, f5, f6) hx hb hr hlocks hS rfl (⟨show x5.toInt ≤ y5_34.toInt ∧ y5_34.toInt ≤ x2.toInt from (by first | assumption | omega), show TokOK y7_34 y8_34 from (by first | assumption | omega), show r_65.toInt = 0 → x5.toInt < y5_34.toInt ∨ y7_34.toInt = 0 from (by first | assumption | omega), show r_65.toInt = 0 → x11.toInt = x11.toInt + 1 ∧ x11.toInt ≤ 5 from (by first | assumption | omega), show r_65.toInt = 0 → (∀ i : Int, 0 ≤ i → i ≠ x11.toInt → f4 i.toNat = f4 i.toNat) ∧ ((f4 x11.toInt.toNat).toInt = 0 ∨ (7 ≤ (f4 x11.toInt.toNat).toInt ∧ (f4 x11.toInt.toNat).toInt ≤ 10)) from (fun q => absurd q (by omega)), show r_65.toInt = 0 → (∀ i : Int, 0 ≤ i → i ≠ x11.toInt → f5 i.toNat = f5 i.toNat) ∧ 0 ≤ (f5 x11.toInt.toNat).toInt ∧ (f5 x11.toInt.toNat).toInt ≤ 9 from (fun q => absurd q (by omega)), show r_65.toInt = 0 → (∀ i : Int, 0 ≤ i → i ≠ x11.toInt + 1 → f6 i.toNat = f6 i.toNat) ∧ f6 (x11.toInt + 1).toNat = x10 from (fun q => absurd q (by omega))⟩) hP hD hQ (Nat.le_of_ble_eq_true rfl) (Nat.le_of_ble_eq_true rfl) dX11_opens_51
  · refine lv_iconst (v := 0) hx hb dX11_opens_9 (by decide) ?_
    refine lv_goto (tgt := 17) hx hb dX11_opens_10 (by decide) ?_
    refine lv_istore_n (lv' := [(1, .int 0), (0, .ref mm)]) hx hb dX11_opens_17 rfl hl (by decide) rfl (fun ls hl => ?_)
    refine lv_iload_n hx hb dX11_opens_18 rfl (lv_at hl 0 rfl) ?_
    refine a_if_le (u := 0) (tgt := 26) hx hb dX11_opens_19 (by decide) (by decide) (fun c_66 => ?_) (fun c_66 => absurd c_66 (by omega))
    refine lv_iconst (v := 0) hx hb dX11_opens_26 (by decide) ?_
    refine lv_istore_n (lv' := [(2, .int 0), (1, .int 0), (0, .ref mm)]) hx hb dX11_opens_27 rfl hl (by decide) rfl (fun ls hl => ?_)
    refine lv_iload_n hx hb dX11_opens_28 rfl (lv_at hl 1 rfl) ?_
    refine lv_bipush (v := 10) hx hb dX11_opens_29 (by decide) ?_
    refine a_icmp_ne (u := 0) (v := 10) (tgt := 61) hx hb dX11_opens_31 (by decide) (by decide) (by decide) (fun c_67 => ?_) (fun c_67 => absurd c_67 (by omega))
    refine lv_aload_n hx hb dX11_opens_61 rfl (lv_at hl 2 rfl) ?_
    refine va_get (D := D) (ci := 11) (v := .int x7) (C := RX11) (T := TX11) (N := 47) hx hb hts (by decide +kernel) hown hK.1 hP 0 rfl rfl 11 (by decide) (hts (.fieldLink RX11 131 "JugglingHallModel" "token" "I") (by decide +kernel)) (fun _ h9 => h9) rfl dX11_opens_62 ?_
    refine lv_bipush (v := 40) hx hb dX11_opens_65 (by decide) ?_
    refine a_icmp_eq (u := x7.toInt) (v := 40) (tgt := 80) hx hb dX11_opens_67 (by decide) (rfl) (by decide) (fun c_68 => ?_) (fun c_68 => ?_)
    · refine lv_aload_n hx hb dX11_opens_80 rfl (lv_at hl 2 rfl) ?_
      refine va_get (D := D) (ci := 11) (v := .int x11) (C := RX11) (T := TX11) (N := 47) hx hb hts (by decide +kernel) hown hK.1 hP 0 rfl rfl 20 (by decide) (hts (.fieldLink RX11 154 "JugglingHallModel" "depth" "I") (by decide +kernel)) (fun _ h9 => h9) rfl dX11_opens_81 ?_
      refine lv_iconst (v := 5) hx hb dX11_opens_84 (by decide) ?_
      refine a_icmp_ne (u := x11.toInt) (v := 5) (tgt := 98) hx hb dX11_opens_85 (by decide) (rfl) (by decide) (fun c_69 => ?_) (fun c_69 => ?_)
      · refine lv_aload_n hx hb dX11_opens_98 rfl (lv_at hl 2 rfl) ?_
        refine va_get (D := D) (ci := 11) (v := .ref (q 4)) (C := RX11) (T := TX11) (N := 47) hx hb hts (by decide +kernel) hown hK.1 hP 0 rfl rfl 15 (by decide) (hts (.fieldLink RX11 30 "JugglingHallModel" "open" "[I") (by decide +kernel)) (fun _ h9 => h9) rfl dX11_opens_99 ?_
        refine lv_aload_n hx hb dX11_opens_102 rfl (lv_at hl 2 rfl) ?_
        refine va_get (D := D) (ci := 11) (v := .int x11) (C := RX11) (T := TX11) (N := 47) hx hb hts (by decide +kernel) hown hK.1 hP 0 rfl rfl 20 (by decide) (hts (.fieldLink RX11 154 "JugglingHallModel" "depth" "I") (by decide +kernel)) (fun _ h9 => h9) rfl dX11_opens_103 ?_
        refine lv_iload_n hx hb dX11_opens_106 rfl (lv_at hl 1 rfl) ?_
        refine ma_4 (u := x11.toInt) hx hb hK hP hD hS dX11_opens_107 (rfl) (by omega) (fun g_70 H locs eg_70 hP hD hS => ?_)
        have hs4 : (g_70 x11.toInt.toNat) = (0 : Int32) := by rw [eg_70, pk_us]
        have hz_71 : (0 : Int32).toInt = 0 := by decide
        refine lv_aload_n hx hb dX11_opens_108 rfl (lv_at hl 2 rfl) ?_
        refine va_get (D := D) (ci := 11) (v := .ref (q 5)) (C := RX11) (T := TX11) (N := 47) hx hb hts (by decide +kernel) hown hK.1 hP 0 rfl rfl 16 (by decide) (hts (.fieldLink RX11 33 "JugglingHallModel" "digit" "[I") (by decide +kernel)) (fun _ h9 => h9) rfl dX11_opens_109 ?_
        refine lv_aload_n hx hb dX11_opens_112 rfl (lv_at hl 2 rfl) ?_
        refine va_get (D := D) (ci := 11) (v := .int x11) (C := RX11) (T := TX11) (N := 47) hx hb hts (by decide +kernel) hown hK.1 hP 0 rfl rfl 20 (by decide) (hts (.fieldLink RX11 154 "JugglingHallModel" "depth" "I") (by decide +kernel)) (fun _ h9 => h9) rfl dX11_opens_113 ?_
        refine lv_iload_n hx hb dX11_opens_116 rfl (lv_at hl 0 rfl) ?_
        refine ma_5 (u := x11.toInt) hx hb hK hP hD hS dX11_opens_117 (rfl) (by omega) (fun g_72 H locs eg_72 hP hD hS => ?_)
        have hs5 : (g_72 x11.toInt.toNat) = (0 : Int32) := by rw [eg_72, pk_us]
        have hz_73 : (0 : Int32).toInt = 0 := by decide
        refine lv_aload_n hx hb dX11_opens_118 rfl (lv_at hl 2 rfl) ?_
        refine lv_dup hx hb dX11_opens_119 rfl ?_
        refine va_get (D := D) (ci := 11) (v := .int x11) (C := RX11) (T := TX11) (N := 47) hx hb hts (by decide +kernel) hown hK.1 hP 0 rfl rfl 20 (by decide) (hts (.fieldLink RX11 154 "JugglingHallModel" "depth" "I") (by decide +kernel)) (fun _ h9 => h9) rfl dX11_opens_120 ?_
        refine lv_iconst (v := 1) hx hb dX11_opens_123 (by decide) ?_
        refine a_iadd (u := x11.toInt) (v := 1) hx hb dX11_opens_124 (rfl) (by decide) (by omega) (fun z_74 e_74 => ?_)
        refine mp_11 hx hb hts (by decide +kernel) hown hK hP hD hS (hts (.fieldLink RX11 154 "JugglingHallModel" "depth" "I") (by decide +kernel)) dX11_opens_125 (fun H locs hP hD hS => ?_)
        refine lv_aload_n hx hb dX11_opens_128 rfl (lv_at hl 2 rfl) ?_
        refine va_get (D := D) (ci := 11) (v := .ref (q 6)) (C := RX11) (T := TX11) (N := 47) hx hb hts (by decide +kernel) hown hK.1 hP 0 rfl rfl 17 (by decide) (hts (.fieldLink RX11 36 "JugglingHallModel" "starts" "[I") (by decide +kernel)) (fun _ h9 => h9) rfl dX11_opens_129 ?_
        refine lv_aload_n hx hb dX11_opens_132 rfl (lv_at hl 2 rfl) ?_
        refine va_get (D := D) (ci := 11) (v := .int z_74) (C := RX11) (T := TX11) (N := 47) hx hb hts (by decide +kernel) hown hK.1 hP 0 rfl rfl 20 (by decide) (hts (.fieldLink RX11 154 "JugglingHallModel" "depth" "I") (by decide +kernel)) (fun _ h9 => h9) rfl dX11_opens_133 ?_
        refine lv_aload_n hx hb dX11_opens_136 rfl (lv_at hl 2 rfl) ?_
        refine va_get (D := D) (ci := 11) (v := .int x10) (C := RX11) (T := TX11) (N := 47) hx hb hts (by decide +kernel) hown hK.1 hP 0 rfl rfl 19 (by decide) (hts (.fieldLink RX11 151 "JugglingHallModel" "top" "I") (by decide +kernel)) (fun _ h9 => h9) rfl dX11_opens_137 ?_
        refine ma_6 (u := (x11.toInt + 1)) hx hb hK hP hD hS dX11_opens_140 (e_74) (by omega) (fun g_75 H locs eg_75 hP hD hS => ?_)
        have hx6 : z_74.toInt = x11.toInt + 1 := by omega
        have hs6 : (g_75 (x11.toInt + 1).toNat) = x10 := by rw [eg_75, show (x11.toInt + 1) = x11.toInt + 1 by omega, pk_us]
        refine lv_aload_n hx hb dX11_opens_141 rfl (lv_at hl 2 rfl) ?_
        refine call_g (wr := []) (va_runV (As := []) (rest := []) ⟨hx, hb, hml, hown, hts⟩ (k_next l D cI cR cM _  (by first | assumption | omega) (by first | assumption | omega)) (cwV 0 hts gX11_opens_X11_nextToken rfl rfl rfl (by decide +kernel) ⟨Nat.le_of_ble_eq_true rfl, Nat.le_of_ble_eq_true rfl⟩) (pre_V hK hP hD 0 11 rfl rfl) rfl rfl hl.1 rfl (lv_room (Nat.le_of_ble_eq_true rfl)) dX11_opens_142 ⟨Nat.le_of_ble_eq_true rfl, Nat.le_of_ble_eq_true rfl⟩) hP hD hS hA [0, 1, 2, 3, 4, 5, 6, 7, 8, 9, 10, 11, 12, 13, 14, 15, 16, 17, 18, 19, 20, 21, 22, 23, 24, 25] [] (by with_unfolding_all rfl) rfl (by decide) (by decide) (fun u_76 H locs hw hP hD hS => ?_)
        obtain ⟨y5_76, y6_76, y7_76, y8_76⟩ := u_76
        have hP : va_P D vwCl (mX mm q jn cI x0 x1 x2 x3 x4 y5_76 y6_76 y7_76 y8_76 x9 x10 z_74 x12 x13 x14 x15 x16 x17 x18 x19 x20 f0 f1 f2 f3 g_70 g_72 g_75 f7 f8 f9 f10 f11 f12 f13 f14 f15 f16 f17 f18 f19 f20 f21 f22 f23 f24) H := hP
        have hD : va_D A (mX mm q jn cI x0 x1 x2 x3 x4 y5_76 y6_76 y7_76 y8_76 x9 x10 z_74 x12 x13 x14 x15 x16 x17 x18 x19 x20 f0 f1 f2 f3 g_70 g_72 g_75 f7 f8 f9 f10 f11 f12 f13 f14 f15 f16 f17 f18 f19 f20 f21 f22 f23 f24) := hD
        obtain ⟨ha_76, hp_76, hk_76, hT_76⟩ : (x5.toInt ≤ y5_76.toInt ∧ y5_76.toInt ≤ x2.toInt) ∧ (0 ≤ y6_76.toInt ∧ y6_76.toInt ≤ 300) ∧ (y7_76.toInt = 0 ∨ x5.toInt < y5_76.toInt) ∧ (TokOK y7_76 y8_76) := hw
        refine lv_iconst (v := 0) hx hb dX11_opens_145 (by decide) ?_
        have hz_77 : (0 : Int32).toInt = 0 := by decide
        exact g_iret ((0 : Int32), y5_76, y6_76, y7_76, y8_76, x9, z_74, g_70, g_72, g_75) hx hb hr hlocks hS rfl (⟨show x5.toInt ≤ y5_76.toInt ∧ y5_76.toInt ≤ x2.toInt from (by first | assumption | omega), show TokOK y7_76 y8_76 from (by first | assumption | omega), show (0 : Int32).toInt = 0 → x5.toInt < y5_76.toInt ∨ y7_76.toInt = 0 from (by first | assumption | omega), show (0 : Int32).toInt = 0 → z_74.toInt = x11.toInt + 1 ∧ z_74.toInt ≤ 5 from (by first | assumption | omega), show (0 : Int32).toInt = 0 → (∀ i : Int, 0 ≤ i → i ≠ x11.toInt → g_70 i.toNat = f4 i.toNat) ∧ ((g_70 x11.toInt.toNat).toInt = 0 ∨ (7 ≤ (g_70 x11.toInt.toNat).toInt ∧ (g_70 x11.toInt.toNat).toInt ≤ 10)) from (fun _ => ⟨fun i i0 i1 => by rw [eg_70, un_i i0 (by omega) i1], by rw [hs4]; omega⟩), show (0 : Int32).toInt = 0 → (∀ i : Int, 0 ≤ i → i ≠ x11.toInt → g_72 i.toNat = f5 i.toNat) ∧ 0 ≤ (g_72 x11.toInt.toNat).toInt ∧ (g_72 x11.toInt.toNat).toInt ≤ 9 from (fun _ => ⟨fun i i0 i1 => by rw [eg_72, un_i i0 (by omega) i1], by rw [hs5]; omega⟩), show (0 : Int32).toInt = 0 → (∀ i : Int, 0 ≤ i → i ≠ x11.toInt + 1 → g_75 i.toNat = f6 i.toNat) ∧ g_75 (x11.toInt + 1).toNat = x10 from (fun _ => ⟨fun i i0 i1 => by rw [eg_75, un_i i0 (by omega) (by omega)], hs6⟩)⟩) hP hD hQ (Nat.le_of_ble_eq_true rfl) (Nat.le_of_ble_eq_true rfl) dX11_opens_146
      · refine lv_aload_n hx hb dX11_opens_88 rfl (lv_at hl 2 rfl) ?_
        refine lv_iconst (v := 3) hx hb dX11_opens_89 (by decide) ?_
        refine lv_aload_n hx hb dX11_opens_90 rfl (lv_at hl 2 rfl) ?_
        refine va_get (D := D) (ci := 11) (v := .int x6) (C := RX11) (T := TX11) (N := 47) hx hb hts (by decide +kernel) hown hK.1 hP 0 rfl rfl 10 (by decide) (hts (.fieldLink RX11 120 "JugglingHallModel" "place" "I") (by decide +kernel)) (fun _ h9 => h9) rfl dX11_opens_91 ?_
        have hz_78 : (3 : Int32).toInt = 3 := by decide
        refine call_g (wr := []) (va_runV (As := [.int 3, .int x6]) (rest := []) ⟨hx, hb, hml, hown, hts⟩ (k_fails l D cI cR cM _  ) (cwV 2 hts gX11_opens_X11_fails rfl rfl rfl (by decide +kernel) ⟨Nat.le_of_ble_eq_true rfl, Nat.le_of_ble_eq_true rfl⟩) (pre_V hK hP hD 0 11 rfl rfl) rfl rfl hl.1 rfl (lv_room (Nat.le_of_ble_eq_true rfl)) dX11_opens_94 ⟨Nat.le_of_ble_eq_true rfl, Nat.le_of_ble_eq_true rfl⟩) hP hD hS hA [0, 1, 2, 3, 4, 5, 6, 7, 8, 9, 10, 11, 12, 13, 14, 15, 16, 17, 18, 19, 20, 21, 22, 23, 24, 25] [] (by with_unfolding_all rfl) rfl (by decide) (by decide) (fun u_79 H locs hw hP hD hS => ?_)
        obtain ⟨r_79, y9_79⟩ := u_79
        have hP : va_P D vwCl (mX mm q jn cI x0 x1 x2 x3 x4 x5 x6 x7 x8 y9_79 x10 x11 x12 x13 x14 x15 x16 x17 x18 x19 x20 f0 f1 f2 f3 f4 f5 f6 f7 f8 f9 f10 f11 f12 f13 f14 f15 f16 f17 f18 f19 f20 f21 f22 f23 f24) H := hP
        have hD : va_D A (mX mm q jn cI x0 x1 x2 x3 x4 x5 x6 x7 x8 y9_79 x10 x11 x12 x13 x14 x15 x16 x17 x18 x19 x20 f0 f1 f2 f3 f4 f5 f6 f7 f8 f9 f10 f11 f12 f13 f14 f15 f16 f17 f18 f19 f20 f21 f22 f23 f24) := hD
        have hr_79 : (r_79.toInt = (3 : Int32).toInt) := hw
        exact g_iret (r_79, x5, x6, x7, x8, y9_79, x11, f4, f5, f6) hx hb hr hlocks hS rfl (⟨show x5.toInt ≤ x5.toInt ∧ x5.toInt ≤ x2.toInt from (by first | assumption | omega), show TokOK x7 x8 from (by first | assumption | omega), show r_79.toInt = 0 → x5.toInt < x5.toInt ∨ x7.toInt = 0 from (by first | assumption | omega), show r_79.toInt = 0 → x11.toInt = x11.toInt + 1 ∧ x11.toInt ≤ 5 from (by first | assumption | omega), show r_79.toInt = 0 → (∀ i : Int, 0 ≤ i → i ≠ x11.toInt → f4 i.toNat = f4 i.toNat) ∧ ((f4 x11.toInt.toNat).toInt = 0 ∨ (7 ≤ (f4 x11.toInt.toNat).toInt ∧ (f4 x11.toInt.toNat).toInt ≤ 10)) from (fun q => absurd q (by omega)), show r_79.toInt = 0 → (∀ i : Int, 0 ≤ i → i ≠ x11.toInt → f5 i.toNat = f5 i.toNat) ∧ 0 ≤ (f5 x11.toInt.toNat).toInt ∧ (f5 x11.toInt.toNat).toInt ≤ 9 from (fun q => absurd q (by omega)), show r_79.toInt = 0 → (∀ i : Int, 0 ≤ i → i ≠ x11.toInt + 1 → f6 i.toNat = f6 i.toNat) ∧ f6 (x11.toInt + 1).toNat = x10 from (fun q => absurd q (by omega))⟩) hP hD hQ (Nat.le_of_ble_eq_true rfl) (Nat.le_of_ble_eq_true rfl) dX11_opens_97
    · refine lv_aload_n hx hb dX11_opens_70 rfl (lv_at hl 2 rfl) ?_
      refine lv_iconst (v := 1) hx hb dX11_opens_71 (by decide) ?_
      refine lv_aload_n hx hb dX11_opens_72 rfl (lv_at hl 2 rfl) ?_
      refine va_get (D := D) (ci := 11) (v := .int x6) (C := RX11) (T := TX11) (N := 47) hx hb hts (by decide +kernel) hown hK.1 hP 0 rfl rfl 10 (by decide) (hts (.fieldLink RX11 120 "JugglingHallModel" "place" "I") (by decide +kernel)) (fun _ h9 => h9) rfl dX11_opens_73 ?_
      have hz_80 : (1 : Int32).toInt = 1 := by decide
      refine call_g (wr := []) (va_runV (As := [.int 1, .int x6]) (rest := []) ⟨hx, hb, hml, hown, hts⟩ (k_fails l D cI cR cM _  ) (cwV 2 hts gX11_opens_X11_fails rfl rfl rfl (by decide +kernel) ⟨Nat.le_of_ble_eq_true rfl, Nat.le_of_ble_eq_true rfl⟩) (pre_V hK hP hD 0 11 rfl rfl) rfl rfl hl.1 rfl (lv_room (Nat.le_of_ble_eq_true rfl)) dX11_opens_76 ⟨Nat.le_of_ble_eq_true rfl, Nat.le_of_ble_eq_true rfl⟩) hP hD hS hA [0, 1, 2, 3, 4, 5, 6, 7, 8, 9, 10, 11, 12, 13, 14, 15, 16, 17, 18, 19, 20, 21, 22, 23, 24, 25] [] (by with_unfolding_all rfl) rfl (by decide) (by decide) (fun u_81 H locs hw hP hD hS => ?_)
      obtain ⟨r_81, y9_81⟩ := u_81
      have hP : va_P D vwCl (mX mm q jn cI x0 x1 x2 x3 x4 x5 x6 x7 x8 y9_81 x10 x11 x12 x13 x14 x15 x16 x17 x18 x19 x20 f0 f1 f2 f3 f4 f5 f6 f7 f8 f9 f10 f11 f12 f13 f14 f15 f16 f17 f18 f19 f20 f21 f22 f23 f24) H := hP
      have hD : va_D A (mX mm q jn cI x0 x1 x2 x3 x4 x5 x6 x7 x8 y9_81 x10 x11 x12 x13 x14 x15 x16 x17 x18 x19 x20 f0 f1 f2 f3 f4 f5 f6 f7 f8 f9 f10 f11 f12 f13 f14 f15 f16 f17 f18 f19 f20 f21 f22 f23 f24) := hD
      have hr_81 : (r_81.toInt = (1 : Int32).toInt) := hw
      exact g_iret (r_81, x5, x6, x7, x8, y9_81, x11, f4, f5, f6) hx hb hr hlocks hS rfl (⟨show x5.toInt ≤ x5.toInt ∧ x5.toInt ≤ x2.toInt from (by first | assumption | omega), show TokOK x7 x8 from (by first | assumption | omega), show r_81.toInt = 0 → x5.toInt < x5.toInt ∨ x7.toInt = 0 from (by first | assumption | omega), show r_81.toInt = 0 → x11.toInt = x11.toInt + 1 ∧ x11.toInt ≤ 5 from (by first | assumption | omega), show r_81.toInt = 0 → (∀ i : Int, 0 ≤ i → i ≠ x11.toInt → f4 i.toNat = f4 i.toNat) ∧ ((f4 x11.toInt.toNat).toInt = 0 ∨ (7 ≤ (f4 x11.toInt.toNat).toInt ∧ (f4 x11.toInt.toNat).toInt ≤ 10)) from (fun q => absurd q (by omega)), show r_81.toInt = 0 → (∀ i : Int, 0 ≤ i → i ≠ x11.toInt → f5 i.toNat = f5 i.toNat) ∧ 0 ≤ (f5 x11.toInt.toNat).toInt ∧ (f5 x11.toInt.toNat).toInt ≤ 9 from (fun q => absurd q (by omega)), show r_81.toInt = 0 → (∀ i : Int, 0 ≤ i → i ≠ x11.toInt + 1 → f6 i.toNat = f6 i.toNat) ∧ f6 (x11.toInt + 1).toNat = x10 from (fun q => absurd q (by omega))⟩) hP hD hQ (Nat.le_of_ble_eq_true rfl) (Nat.le_of_ble_eq_true rfl) dX11_opens_79
