theorem dX9_after_0 : decode cX9_after 0 = .ok (.iload_n 0, 1) := by decide +kernel
theorem dX9_after_1 : decode cX9_after 1 = .ok (.iconst 1, 1) := by decide +kernel
theorem dX9_after_2 : decode cX9_after 2 = .ok (.ishr, 1) := by decide +kernel
theorem dX9_after_3 : decode cX9_after 3 = .ok (.istore_n 2, 1) := by decide +kernel
theorem dX9_after_4 : decode cX9_after 4 = .ok (.iload_n 0, 1) := by decide +kernel
theorem dX9_after_5 : decode cX9_after 5 = .ok (.iconst 1, 1) := by decide +kernel
theorem dX9_after_6 : decode cX9_after 6 = .ok (.iand, 1) := by decide +kernel
theorem dX9_after_7 : decode cX9_after 7 = .ok (.ifCond .ne 13, 3) := by decide +kernel
theorem dX9_after_10 : decode cX9_after 10 = .ok (.iload_n 1, 1) := by decide +kernel
theorem dX9_after_11 : decode cX9_after 11 = .ok (.ifCond .ne 7, 3) := by decide +kernel
theorem dX9_after_14 : decode cX9_after 14 = .ok (.iload_n 2, 1) := by decide +kernel
theorem dX9_after_15 : decode cX9_after 15 = .ok (.goto 4, 3) := by decide +kernel
theorem dX9_after_18 : decode cX9_after 18 = .ok (.iconst (-1), 1) := by decide +kernel
theorem dX9_after_19 : decode cX9_after 19 = .ok (.ireturn, 1) := by decide +kernel
theorem dX9_after_20 : decode cX9_after 20 = .ok (.iload_n 1, 1) := by decide +kernel
theorem dX9_after_21 : decode cX9_after 21 = .ok (.iconst 1, 1) := by decide +kernel
theorem dX9_after_22 : decode cX9_after 22 = .ok (.if_icmp .lt 20, 3) := by decide +kernel
theorem dX9_after_25 : decode cX9_after 25 = .ok (.iload_n 1, 1) := by decide +kernel
theorem dX9_after_26 : decode cX9_after 26 = .ok (.bipush 9, 2) := by decide +kernel
theorem dX9_after_28 : decode cX9_after 28 = .ok (.if_icmp .gt 14, 3) := by decide +kernel
theorem dX9_after_31 : decode cX9_after 31 = .ok (.iload_n 2, 1) := by decide +kernel
theorem dX9_after_32 : decode cX9_after 32 = .ok (.iload_n 1, 1) := by decide +kernel
theorem dX9_after_33 : decode cX9_after 33 = .ok (.iconst 1, 1) := by decide +kernel
theorem dX9_after_34 : decode cX9_after 34 = .ok (.isub, 1) := by decide +kernel
theorem dX9_after_35 : decode cX9_after 35 = .ok (.ishr, 1) := by decide +kernel
theorem dX9_after_36 : decode cX9_after 36 = .ok (.iconst 1, 1) := by decide +kernel
theorem dX9_after_37 : decode cX9_after 37 = .ok (.iand, 1) := by decide +kernel
theorem dX9_after_38 : decode cX9_after 38 = .ok (.iconst 1, 1) := by decide +kernel
theorem dX9_after_39 : decode cX9_after 39 = .ok (.if_icmp .ne 5, 3) := by decide +kernel
theorem dX9_after_42 : decode cX9_after 42 = .ok (.iconst (-1), 1) := by decide +kernel
theorem dX9_after_43 : decode cX9_after 43 = .ok (.ireturn, 1) := by decide +kernel
theorem dX9_after_44 : decode cX9_after 44 = .ok (.iload_n 2, 1) := by decide +kernel
theorem dX9_after_45 : decode cX9_after 45 = .ok (.iconst 1, 1) := by decide +kernel
theorem dX9_after_46 : decode cX9_after 46 = .ok (.iload_n 1, 1) := by decide +kernel
theorem dX9_after_47 : decode cX9_after 47 = .ok (.iconst 1, 1) := by decide +kernel
theorem dX9_after_48 : decode cX9_after 48 = .ok (.isub, 1) := by decide +kernel
theorem dX9_after_49 : decode cX9_after 49 = .ok (.ishl, 1) := by decide +kernel
theorem dX9_after_50 : decode cX9_after 50 = .ok (.ior, 1) := by decide +kernel
theorem dX9_after_51 : decode cX9_after 51 = .ok (.ireturn, 1) := by decide +kernel
theorem dX11_isIn_0 : decode cX11_isIn 0 = .ok (.iload_n 0, 1) := by decide +kernel
theorem dX11_isIn_1 : decode cX11_isIn 1 = .ok (.iload_n 1, 1) := by decide +kernel
theorem dX11_isIn_2 : decode cX11_isIn 2 = .ok (.if_icmp .lt 12, 3) := by decide +kernel
theorem dX11_isIn_5 : decode cX11_isIn 5 = .ok (.iload_n 0, 1) := by decide +kernel
theorem dX11_isIn_6 : decode cX11_isIn 6 = .ok (.iload_n 2, 1) := by decide +kernel
theorem dX11_isIn_7 : decode cX11_isIn 7 = .ok (.if_icmp .gt 7, 3) := by decide +kernel
theorem dX11_isIn_10 : decode cX11_isIn 10 = .ok (.iconst 1, 1) := by decide +kernel
theorem dX11_isIn_11 : decode cX11_isIn 11 = .ok (.goto 4, 3) := by decide +kernel
theorem dX11_isIn_14 : decode cX11_isIn 14 = .ok (.iconst 0, 1) := by decide +kernel
theorem dX11_isIn_15 : decode cX11_isIn 15 = .ok (.ireturn, 1) := by decide +kernel
theorem dX11_step_0 : decode cX11_step 0 = .ok (.iload_n 0, 1) := by decide +kernel
theorem dX11_step_1 : decode cX11_step 1 = .ok (.iconst 1, 1) := by decide +kernel
theorem dX11_step_2 : decode cX11_step 2 = .ok (.iand, 1) := by decide +kernel
theorem dX11_step_3 : decode cX11_step 3 = .ok (.ifCond .ne 15, 3) := by decide +kernel
theorem dX11_step_6 : decode cX11_step 6 = .ok (.iload_n 1, 1) := by decide +kernel
theorem dX11_step_7 : decode cX11_step 7 = .ok (.ifCond .ne 9, 3) := by decide +kernel
theorem dX11_step_10 : decode cX11_step 10 = .ok (.iload_n 0, 1) := by decide +kernel
theorem dX11_step_11 : decode cX11_step 11 = .ok (.iconst 1, 1) := by decide +kernel
theorem dX11_step_12 : decode cX11_step 12 = .ok (.ishr, 1) := by decide +kernel
theorem dX11_step_13 : decode cX11_step 13 = .ok (.goto 4, 3) := by decide +kernel
theorem dX11_step_16 : decode cX11_step 16 = .ok (.iconst (-1), 1) := by decide +kernel
theorem dX11_step_17 : decode cX11_step 17 = .ok (.ireturn, 1) := by decide +kernel
theorem dX11_step_18 : decode cX11_step 18 = .ok (.iload_n 1, 1) := by decide +kernel
theorem dX11_step_19 : decode cX11_step 19 = .ok (.ifCond .eq 16, 3) := by decide +kernel
theorem dX11_step_22 : decode cX11_step 22 = .ok (.iload_n 0, 1) := by decide +kernel
theorem dX11_step_23 : decode cX11_step 23 = .ok (.iconst 1, 1) := by decide +kernel
theorem dX11_step_24 : decode cX11_step 24 = .ok (.ishr, 1) := by decide +kernel
theorem dX11_step_25 : decode cX11_step 25 = .ok (.iload_n 1, 1) := by decide +kernel
theorem dX11_step_26 : decode cX11_step 26 = .ok (.iconst 1, 1) := by decide +kernel
theorem dX11_step_27 : decode cX11_step 27 = .ok (.isub, 1) := by decide +kernel
theorem dX11_step_28 : decode cX11_step 28 = .ok (.ishr, 1) := by decide +kernel
theorem dX11_step_29 : decode cX11_step 29 = .ok (.iconst 1, 1) := by decide +kernel
theorem dX11_step_30 : decode cX11_step 30 = .ok (.iand, 1) := by decide +kernel
theorem dX11_step_31 : decode cX11_step 31 = .ok (.iconst 1, 1) := by decide +kernel
theorem dX11_step_32 : decode cX11_step 32 = .ok (.if_icmp .ne 5, 3) := by decide +kernel
theorem dX11_step_35 : decode cX11_step 35 = .ok (.iconst (-1), 1) := by decide +kernel
theorem dX11_step_36 : decode cX11_step 36 = .ok (.ireturn, 1) := by decide +kernel
theorem dX11_step_37 : decode cX11_step 37 = .ok (.iload_n 0, 1) := by decide +kernel
theorem dX11_step_38 : decode cX11_step 38 = .ok (.iconst 1, 1) := by decide +kernel
theorem dX11_step_39 : decode cX11_step 39 = .ok (.ishr, 1) := by decide +kernel
theorem dX11_step_40 : decode cX11_step 40 = .ok (.iconst 1, 1) := by decide +kernel
theorem dX11_step_41 : decode cX11_step 41 = .ok (.iload_n 1, 1) := by decide +kernel
theorem dX11_step_42 : decode cX11_step 42 = .ok (.iconst 1, 1) := by decide +kernel
theorem dX11_step_43 : decode cX11_step 43 = .ok (.isub, 1) := by decide +kernel
theorem dX11_step_44 : decode cX11_step 44 = .ok (.ishl, 1) := by decide +kernel
theorem dX11_step_45 : decode cX11_step 45 = .ok (.ior, 1) := by decide +kernel
theorem dX11_step_46 : decode cX11_step 46 = .ok (.ireturn, 1) := by decide +kernel
theorem dX11_bitsOf_0 : decode cX11_bitsOf 0 = .ok (.iconst 0, 1) := by decide +kernel
theorem dX11_bitsOf_1 : decode cX11_bitsOf 1 = .ok (.istore_n 1, 1) := by decide +kernel
theorem dX11_bitsOf_2 : decode cX11_bitsOf 2 = .ok (.iconst 0, 1) := by decide +kernel
theorem dX11_bitsOf_3 : decode cX11_bitsOf 3 = .ok (.istore_n 2, 1) := by decide +kernel
theorem dX11_bitsOf_4 : decode cX11_bitsOf 4 = .ok (.iload_n 2, 1) := by decide +kernel
theorem dX11_bitsOf_5 : decode cX11_bitsOf 5 = .ok (.bipush 9, 2) := by decide +kernel
theorem dX11_bitsOf_7 : decode cX11_bitsOf 7 = .ok (.if_icmp .ge 17, 3) := by decide +kernel
theorem dX11_bitsOf_10 : decode cX11_bitsOf 10 = .ok (.iload_n 1, 1) := by decide +kernel
theorem dX11_bitsOf_11 : decode cX11_bitsOf 11 = .ok (.iload_n 0, 1) := by decide +kernel
theorem dX11_bitsOf_12 : decode cX11_bitsOf 12 = .ok (.iload_n 2, 1) := by decide +kernel
theorem dX11_bitsOf_13 : decode cX11_bitsOf 13 = .ok (.ishr, 1) := by decide +kernel
theorem dX11_bitsOf_14 : decode cX11_bitsOf 14 = .ok (.iconst 1, 1) := by decide +kernel
theorem dX11_bitsOf_15 : decode cX11_bitsOf 15 = .ok (.iand, 1) := by decide +kernel
theorem dX11_bitsOf_16 : decode cX11_bitsOf 16 = .ok (.iadd, 1) := by decide +kernel
theorem dX11_bitsOf_17 : decode cX11_bitsOf 17 = .ok (.istore_n 1, 1) := by decide +kernel
theorem dX11_bitsOf_18 : decode cX11_bitsOf 18 = .ok (.iinc 2 1, 3) := by decide +kernel
theorem dX11_bitsOf_21 : decode cX11_bitsOf 21 = .ok (.goto (-17), 3) := by decide +kernel
theorem dX11_bitsOf_24 : decode cX11_bitsOf 24 = .ok (.iload_n 1, 1) := by decide +kernel
theorem dX11_bitsOf_25 : decode cX11_bitsOf 25 = .ok (.ireturn, 1) := by decide +kernel
theorem dJ6_bitCount_0f7a4_0 : decode cJ6_bitCount_0f7a4 0 = .ok (.iload_n 0, 1) := by decide +kernel
theorem dJ6_bitCount_0f7a4_1 : decode cJ6_bitCount_0f7a4 1 = .ok (.iload_n 0, 1) := by decide +kernel
theorem dJ6_bitCount_0f7a4_2 : decode cJ6_bitCount_0f7a4 2 = .ok (.iconst 1, 1) := by decide +kernel
theorem dJ6_bitCount_0f7a4_3 : decode cJ6_bitCount_0f7a4 3 = .ok (.iushr, 1) := by decide +kernel
theorem dJ6_bitCount_0f7a4_4 : decode cJ6_bitCount_0f7a4 4 = .ok (.ldc_w 265, 3) := by decide +kernel
theorem dJ6_bitCount_0f7a4_7 : decode cJ6_bitCount_0f7a4 7 = .ok (.iand, 1) := by decide +kernel
theorem dJ6_bitCount_0f7a4_8 : decode cJ6_bitCount_0f7a4 8 = .ok (.isub, 1) := by decide +kernel
theorem dJ6_bitCount_0f7a4_9 : decode cJ6_bitCount_0f7a4 9 = .ok (.istore_n 0, 1) := by decide +kernel
theorem dJ6_bitCount_0f7a4_10 : decode cJ6_bitCount_0f7a4 10 = .ok (.iload_n 0, 1) := by decide +kernel
theorem dJ6_bitCount_0f7a4_11 : decode cJ6_bitCount_0f7a4 11 = .ok (.ldc_w 266, 3) := by decide +kernel
theorem dJ6_bitCount_0f7a4_14 : decode cJ6_bitCount_0f7a4 14 = .ok (.iand, 1) := by decide +kernel
theorem dJ6_bitCount_0f7a4_15 : decode cJ6_bitCount_0f7a4 15 = .ok (.iload_n 0, 1) := by decide +kernel
theorem dJ6_bitCount_0f7a4_16 : decode cJ6_bitCount_0f7a4 16 = .ok (.iconst 2, 1) := by decide +kernel
theorem dJ6_bitCount_0f7a4_17 : decode cJ6_bitCount_0f7a4 17 = .ok (.iushr, 1) := by decide +kernel
theorem dJ6_bitCount_0f7a4_18 : decode cJ6_bitCount_0f7a4 18 = .ok (.ldc_w 266, 3) := by decide +kernel
theorem dJ6_bitCount_0f7a4_21 : decode cJ6_bitCount_0f7a4 21 = .ok (.iand, 1) := by decide +kernel
theorem dJ6_bitCount_0f7a4_22 : decode cJ6_bitCount_0f7a4 22 = .ok (.iadd, 1) := by decide +kernel
theorem dJ6_bitCount_0f7a4_23 : decode cJ6_bitCount_0f7a4 23 = .ok (.istore_n 0, 1) := by decide +kernel
theorem dJ6_bitCount_0f7a4_24 : decode cJ6_bitCount_0f7a4 24 = .ok (.iload_n 0, 1) := by decide +kernel
theorem dJ6_bitCount_0f7a4_25 : decode cJ6_bitCount_0f7a4 25 = .ok (.iload_n 0, 1) := by decide +kernel
theorem dJ6_bitCount_0f7a4_26 : decode cJ6_bitCount_0f7a4 26 = .ok (.iconst 4, 1) := by decide +kernel
theorem dJ6_bitCount_0f7a4_27 : decode cJ6_bitCount_0f7a4 27 = .ok (.iushr, 1) := by decide +kernel
theorem dJ6_bitCount_0f7a4_28 : decode cJ6_bitCount_0f7a4 28 = .ok (.iadd, 1) := by decide +kernel
theorem dJ6_bitCount_0f7a4_29 : decode cJ6_bitCount_0f7a4 29 = .ok (.ldc_w 267, 3) := by decide +kernel
theorem dJ6_bitCount_0f7a4_32 : decode cJ6_bitCount_0f7a4 32 = .ok (.iand, 1) := by decide +kernel
theorem dJ6_bitCount_0f7a4_33 : decode cJ6_bitCount_0f7a4 33 = .ok (.istore_n 0, 1) := by decide +kernel
theorem dJ6_bitCount_0f7a4_34 : decode cJ6_bitCount_0f7a4 34 = .ok (.iload_n 0, 1) := by decide +kernel
theorem dJ6_bitCount_0f7a4_35 : decode cJ6_bitCount_0f7a4 35 = .ok (.iload_n 0, 1) := by decide +kernel
theorem dJ6_bitCount_0f7a4_36 : decode cJ6_bitCount_0f7a4 36 = .ok (.bipush 8, 2) := by decide +kernel
theorem dJ6_bitCount_0f7a4_38 : decode cJ6_bitCount_0f7a4 38 = .ok (.iushr, 1) := by decide +kernel
theorem dJ6_bitCount_0f7a4_39 : decode cJ6_bitCount_0f7a4 39 = .ok (.iadd, 1) := by decide +kernel
theorem dJ6_bitCount_0f7a4_40 : decode cJ6_bitCount_0f7a4 40 = .ok (.istore_n 0, 1) := by decide +kernel
theorem dJ6_bitCount_0f7a4_41 : decode cJ6_bitCount_0f7a4 41 = .ok (.iload_n 0, 1) := by decide +kernel
theorem dJ6_bitCount_0f7a4_42 : decode cJ6_bitCount_0f7a4 42 = .ok (.iload_n 0, 1) := by decide +kernel
theorem dJ6_bitCount_0f7a4_43 : decode cJ6_bitCount_0f7a4 43 = .ok (.bipush 16, 2) := by decide +kernel
theorem dJ6_bitCount_0f7a4_45 : decode cJ6_bitCount_0f7a4 45 = .ok (.iushr, 1) := by decide +kernel
theorem dJ6_bitCount_0f7a4_46 : decode cJ6_bitCount_0f7a4 46 = .ok (.iadd, 1) := by decide +kernel
theorem dJ6_bitCount_0f7a4_47 : decode cJ6_bitCount_0f7a4 47 = .ok (.istore_n 0, 1) := by decide +kernel
theorem dJ6_bitCount_0f7a4_48 : decode cJ6_bitCount_0f7a4 48 = .ok (.iload_n 0, 1) := by decide +kernel
theorem dJ6_bitCount_0f7a4_49 : decode cJ6_bitCount_0f7a4 49 = .ok (.bipush 63, 2) := by decide +kernel
theorem dJ6_bitCount_0f7a4_51 : decode cJ6_bitCount_0f7a4 51 = .ok (.iand, 1) := by decide +kernel
theorem dJ6_bitCount_0f7a4_52 : decode cJ6_bitCount_0f7a4 52 = .ok (.ireturn, 1) := by decide +kernel
def inI (v lo hi : Int32) : Int32 := if v < lo then 0 else if hi < v then 0 else 1
set_option maxRecDepth 100000 in
theorem l_c_after_1 : ∀ s0, s0 < 512 → ∀ h0, h0 < 10 → ((¬ ((nI s0) &&& 1) = 0) ∧ ((nI h0) < 1)) → (-1 : Int32) = stI s0 h0 := by decide +kernel
set_option maxRecDepth 100000 in
theorem l_c_after_2 : ∀ s0, s0 < 512 → ∀ h0, h0 < 10 → ((¬ ((nI s0) &&& 1) = 0) ∧ (¬ (nI h0) < 1) ∧ (9 < (nI h0))) → (-1 : Int32) = stI s0 h0 := by decide +kernel
set_option maxRecDepth 100000 in
theorem l_c_after_3 : ∀ s0, s0 < 512 → ∀ h0, h0 < 10 → ((¬ ((nI s0) &&& 1) = 0) ∧ (¬ (nI h0) < 1) ∧ (¬ 9 < (nI h0)) ∧ (¬ ((((nI s0 : Int32) >>> ((1 : Int32) &&& 31) : Int32) >>> (((nI h0) - 1 : Int32) &&& 31)) &&& 1) = 1)) → ((nI s0 : Int32) >>> ((1 : Int32) &&& 31)) ||| ((1 : Int32) <<< (((nI h0) - 1 : Int32) &&& 31)) = stI s0 h0 := by decide +kernel
set_option maxRecDepth 100000 in
theorem l_c_after_4 : ∀ s0, s0 < 512 → ∀ h0, h0 < 10 → ((¬ ((nI s0) &&& 1) = 0) ∧ (¬ (nI h0) < 1) ∧ (¬ 9 < (nI h0)) ∧ (((((nI s0 : Int32) >>> ((1 : Int32) &&& 31) : Int32) >>> (((nI h0) - 1 : Int32) &&& 31)) &&& 1) = 1)) → (-1 : Int32) = stI s0 h0 := by decide +kernel
set_option maxRecDepth 100000 in
theorem l_c_after_5 : ∀ s0, s0 < 512 → ∀ h0, h0 < 10 → ((((nI s0) &&& 1) = 0) ∧ (¬ (nI h0) = 0)) → (-1 : Int32) = stI s0 h0 := by decide +kernel
set_option maxRecDepth 100000 in
theorem l_c_after_6 : ∀ s0, s0 < 512 → ∀ h0, h0 < 10 → ((((nI s0) &&& 1) = 0) ∧ ((nI h0) = 0)) → (nI s0 : Int32) >>> ((1 : Int32) &&& 31) = stI s0 h0 := by decide +kernel
set_option maxRecDepth 100000 in
set_option maxHeartbeats 4000000 in
theorem c_after (l : Launch) (D : va_G) (cI cR cM : ClassId) (sz : Nat) {s0 h0 : Nat} (hs : s0 < 512) (hh : h0 < 10) : Met l yX9_after wsX9_after ({ frames := 0, cells := 0, slots := 0, locals := 0 }) (P0 D cI cR cM [.int (nI s0), .int (nI h0)] sz []) (QE (some (.int (stI s0 h0))) sz) 0 0 (va_A [] sz) := by
  refine go (cc := cX9_after) (maxL := 3) (ret := (some .int)) (by decide) rfl (Nat.le_of_ble_eq_true rfl) ?_
  intro p e s m below meth c ls args Q hQ hsz hx hb hr hml hts hown hlocks hnm hP hK hD hl
  subst hsz
  have hS : va_S (va_A [] s.heap.size) s.heap s.heap [] := va_S.rf
  have hA : ∀ q, s.heap.size ≤ q → va_A [] s.heap.size q := fun q h => Or.inr h
  have hl : lv_has ls 3 [(0, .int (nI s0)), (1, .int (nI h0))] := hl
  refine lv_iload_n hx hb dX9_after_0 rfl (lv_at hl 0 rfl) ?_
  refine lv_iconst (v := 1) hx hb dX9_after_1 (by decide) ?_
  refine lv_ishr hx hb dX9_after_2 ?_
  refine lv_istore_n (lv' := [(2, .int ((nI s0 : Int32) >>> ((1 : Int32) &&& 31))), (0, .int (nI s0)), (1, .int (nI h0))]) hx hb dX9_after_3 rfl hl (by decide) rfl (fun ls hl => ?_)
  refine lv_iload_n hx hb dX9_after_4 rfl (lv_at hl 1 rfl) ?_
  refine lv_iconst (v := 1) hx hb dX9_after_5 (by decide) ?_
  refine lv_iand hx hb dX9_after_6 ?_
  refine lv_if_ne (tgt := 20) hx hb dX9_after_7 (by decide) (fun c7 => ?_) (fun c7 => ?_)
  · refine lv_iload_n hx hb dX9_after_20 rfl (lv_at hl 2 rfl) ?_
    refine lv_iconst (v := 1) hx hb dX9_after_21 (by decide) ?_
    refine lv_icmp_lt (tgt := 42) hx hb dX9_after_22 (by decide) (fun c22 => ?_) (fun c22 => ?_)
    · refine lv_iconst (v := (-1)) hx hb dX9_after_42 (by decide) ?_
      exact ro_iret hx hb hr hlocks hS (l_c_after_1 s0 hs h0 hh ⟨c7, c22⟩) hQ dX9_after_43
    · refine lv_iload_n hx hb dX9_after_25 rfl (lv_at hl 2 rfl) ?_
      refine lv_bipush (v := 9) hx hb dX9_after_26 (by decide) ?_
      refine lv_icmp_gt (tgt := 42) hx hb dX9_after_28 (by decide) (fun c28 => ?_) (fun c28 => ?_)
      · refine lv_iconst (v := (-1)) hx hb dX9_after_42 (by decide) ?_
        exact ro_iret hx hb hr hlocks hS (l_c_after_2 s0 hs h0 hh ⟨c7, c22, c28⟩) hQ dX9_after_43
      · refine lv_iload_n hx hb dX9_after_31 rfl (lv_at hl 0 rfl) ?_
        refine lv_iload_n hx hb dX9_after_32 rfl (lv_at hl 2 rfl) ?_
        refine lv_iconst (v := 1) hx hb dX9_after_33 (by decide) ?_
        refine lv_isub hx hb dX9_after_34 ?_
        refine lv_ishr hx hb dX9_after_35 ?_
        refine lv_iconst (v := 1) hx hb dX9_after_36 (by decide) ?_
        refine lv_iand hx hb dX9_after_37 ?_
        refine lv_iconst (v := 1) hx hb dX9_after_38 (by decide) ?_
        refine lv_icmp_ne (tgt := 44) hx hb dX9_after_39 (by decide) (fun c39 => ?_) (fun c39 => ?_)
        · refine lv_iload_n hx hb dX9_after_44 rfl (lv_at hl 0 rfl) ?_
          refine lv_iconst (v := 1) hx hb dX9_after_45 (by decide) ?_
          refine lv_iload_n hx hb dX9_after_46 rfl (lv_at hl 2 rfl) ?_
          refine lv_iconst (v := 1) hx hb dX9_after_47 (by decide) ?_
          refine lv_isub hx hb dX9_after_48 ?_
          refine lv_ishl hx hb dX9_after_49 ?_
          refine lv_ior hx hb dX9_after_50 ?_
          exact ro_iret hx hb hr hlocks hS (l_c_after_3 s0 hs h0 hh ⟨c7, c22, c28, c39⟩) hQ dX9_after_51
        · refine lv_iconst (v := (-1)) hx hb dX9_after_42 (by decide) ?_
          exact ro_iret hx hb hr hlocks hS (l_c_after_4 s0 hs h0 hh ⟨c7, c22, c28, c39⟩) hQ dX9_after_43
  · refine lv_iload_n hx hb dX9_after_10 rfl (lv_at hl 2 rfl) ?_
    refine lv_if_ne (tgt := 18) hx hb dX9_after_11 (by decide) (fun c11 => ?_) (fun c11 => ?_)
    · refine lv_iconst (v := (-1)) hx hb dX9_after_18 (by decide) ?_
      exact ro_iret hx hb hr hlocks hS (l_c_after_5 s0 hs h0 hh ⟨c7, c11⟩) hQ dX9_after_19
    · refine lv_iload_n hx hb dX9_after_14 rfl (lv_at hl 0 rfl) ?_
      refine lv_goto (tgt := 19) hx hb dX9_after_15 (by decide) ?_
      exact ro_iret hx hb hr hlocks hS (l_c_after_6 s0 hs h0 hh ⟨c7, c11⟩) hQ dX9_after_19
set_option maxRecDepth 100000 in
theorem l_c_step_1 : ∀ s0, s0 < 512 → ∀ h0, h0 < 10 → ((¬ ((nI s0) &&& 1) = 0) ∧ ((nI h0) = 0)) → (-1 : Int32) = stI s0 h0 := by decide +kernel
set_option maxRecDepth 100000 in
theorem l_c_step_2 : ∀ s0, s0 < 512 → ∀ h0, h0 < 10 → ((¬ ((nI s0) &&& 1) = 0) ∧ (¬ (nI h0) = 0) ∧ (¬ ((((nI s0 : Int32) >>> ((1 : Int32) &&& 31) : Int32) >>> (((nI h0) - 1 : Int32) &&& 31)) &&& 1) = 1)) → ((nI s0 : Int32) >>> ((1 : Int32) &&& 31)) ||| ((1 : Int32) <<< (((nI h0) - 1 : Int32) &&& 31)) = stI s0 h0 := by decide +kernel
set_option maxRecDepth 100000 in
theorem l_c_step_3 : ∀ s0, s0 < 512 → ∀ h0, h0 < 10 → ((¬ ((nI s0) &&& 1) = 0) ∧ (¬ (nI h0) = 0) ∧ (((((nI s0 : Int32) >>> ((1 : Int32) &&& 31) : Int32) >>> (((nI h0) - 1 : Int32) &&& 31)) &&& 1) = 1)) → (-1 : Int32) = stI s0 h0 := by decide +kernel
set_option maxRecDepth 100000 in
theorem l_c_step_4 : ∀ s0, s0 < 512 → ∀ h0, h0 < 10 → ((((nI s0) &&& 1) = 0) ∧ (¬ (nI h0) = 0)) → (-1 : Int32) = stI s0 h0 := by decide +kernel
set_option maxRecDepth 100000 in
theorem l_c_step_5 : ∀ s0, s0 < 512 → ∀ h0, h0 < 10 → ((((nI s0) &&& 1) = 0) ∧ ((nI h0) = 0)) → (nI s0 : Int32) >>> ((1 : Int32) &&& 31) = stI s0 h0 := by decide +kernel
set_option maxRecDepth 100000 in
set_option maxHeartbeats 4000000 in
theorem c_step (l : Launch) (D : va_G) (cI cR cM : ClassId) (sz : Nat) {s0 h0 : Nat} (hs : s0 < 512) (hh : h0 < 10) : Met l yX11_step wsX11_step ({ frames := 0, cells := 0, slots := 0, locals := 0 }) (P0 D cI cR cM [.int (nI s0), .int (nI h0)] sz []) (QE (some (.int (stI s0 h0))) sz) 0 0 (va_A [] sz) := by
  refine go (cc := cX11_step) (maxL := 2) (ret := (some .int)) (by decide) rfl (Nat.le_of_ble_eq_true rfl) ?_
  intro p e s m below meth c ls args Q hQ hsz hx hb hr hml hts hown hlocks hnm hP hK hD hl
  subst hsz
  have hS : va_S (va_A [] s.heap.size) s.heap s.heap [] := va_S.rf
  have hA : ∀ q, s.heap.size ≤ q → va_A [] s.heap.size q := fun q h => Or.inr h
  have hl : lv_has ls 2 [(0, .int (nI s0)), (1, .int (nI h0))] := hl
  refine lv_iload_n hx hb dX11_step_0 rfl (lv_at hl 0 rfl) ?_
  refine lv_iconst (v := 1) hx hb dX11_step_1 (by decide) ?_
  refine lv_iand hx hb dX11_step_2 ?_
  refine lv_if_ne (tgt := 18) hx hb dX11_step_3 (by decide) (fun c3 => ?_) (fun c3 => ?_)
  · refine lv_iload_n hx hb dX11_step_18 rfl (lv_at hl 1 rfl) ?_
    refine lv_if_eq (tgt := 35) hx hb dX11_step_19 (by decide) (fun c19 => ?_) (fun c19 => ?_)
    · refine lv_iconst (v := (-1)) hx hb dX11_step_35 (by decide) ?_
      exact ro_iret hx hb hr hlocks hS (l_c_step_1 s0 hs h0 hh ⟨c3, c19⟩) hQ dX11_step_36
    · refine lv_iload_n hx hb dX11_step_22 rfl (lv_at hl 0 rfl) ?_
      refine lv_iconst (v := 1) hx hb dX11_step_23 (by decide) ?_
      refine lv_ishr hx hb dX11_step_24 ?_
      refine lv_iload_n hx hb dX11_step_25 rfl (lv_at hl 1 rfl) ?_
      refine lv_iconst (v := 1) hx hb dX11_step_26 (by decide) ?_
      refine lv_isub hx hb dX11_step_27 ?_
      refine lv_ishr hx hb dX11_step_28 ?_
      refine lv_iconst (v := 1) hx hb dX11_step_29 (by decide) ?_
      refine lv_iand hx hb dX11_step_30 ?_
      refine lv_iconst (v := 1) hx hb dX11_step_31 (by decide) ?_
      refine lv_icmp_ne (tgt := 37) hx hb dX11_step_32 (by decide) (fun c32 => ?_) (fun c32 => ?_)
      · refine lv_iload_n hx hb dX11_step_37 rfl (lv_at hl 0 rfl) ?_
        refine lv_iconst (v := 1) hx hb dX11_step_38 (by decide) ?_
        refine lv_ishr hx hb dX11_step_39 ?_
        refine lv_iconst (v := 1) hx hb dX11_step_40 (by decide) ?_
        refine lv_iload_n hx hb dX11_step_41 rfl (lv_at hl 1 rfl) ?_
        refine lv_iconst (v := 1) hx hb dX11_step_42 (by decide) ?_
        refine lv_isub hx hb dX11_step_43 ?_
        refine lv_ishl hx hb dX11_step_44 ?_
        refine lv_ior hx hb dX11_step_45 ?_
        exact ro_iret hx hb hr hlocks hS (l_c_step_2 s0 hs h0 hh ⟨c3, c19, c32⟩) hQ dX11_step_46
      · refine lv_iconst (v := (-1)) hx hb dX11_step_35 (by decide) ?_
        exact ro_iret hx hb hr hlocks hS (l_c_step_3 s0 hs h0 hh ⟨c3, c19, c32⟩) hQ dX11_step_36
  · refine lv_iload_n hx hb dX11_step_6 rfl (lv_at hl 1 rfl) ?_
    refine lv_if_ne (tgt := 16) hx hb dX11_step_7 (by decide) (fun c7 => ?_) (fun c7 => ?_)
    · refine lv_iconst (v := (-1)) hx hb dX11_step_16 (by decide) ?_
      exact ro_iret hx hb hr hlocks hS (l_c_step_4 s0 hs h0 hh ⟨c3, c7⟩) hQ dX11_step_17
    · refine lv_iload_n hx hb dX11_step_10 rfl (lv_at hl 0 rfl) ?_
      refine lv_iconst (v := 1) hx hb dX11_step_11 (by decide) ?_
      refine lv_ishr hx hb dX11_step_12 ?_
      refine lv_goto (tgt := 17) hx hb dX11_step_13 (by decide) ?_
      exact ro_iret hx hb hr hlocks hS (l_c_step_5 s0 hs h0 hh ⟨c3, c7⟩) hQ dX11_step_17
set_option maxRecDepth 100000 in
theorem l_bitCount_1 : ∀ n0, n0 < 512 → ((((((((nI n0) - ((((nI n0 : Int32).toUInt32 >>> ((1 : Int32).toUInt32 &&& Int32.toUInt32 31)).toInt32) &&& (1431655765))) &&& (858993459)) + (((((nI n0) - ((((nI n0 : Int32).toUInt32 >>> ((1 : Int32).toUInt32 &&& Int32.toUInt32 31)).toInt32) &&& (1431655765)) : Int32).toUInt32 >>> ((2 : Int32).toUInt32 &&& Int32.toUInt32 31)).toInt32) &&& (858993459))) + ((((((nI n0) - ((((nI n0 : Int32).toUInt32 >>> ((1 : Int32).toUInt32 &&& Int32.toUInt32 31)).toInt32) &&& (1431655765))) &&& (858993459)) + (((((nI n0) - ((((nI n0 : Int32).toUInt32 >>> ((1 : Int32).toUInt32 &&& Int32.toUInt32 31)).toInt32) &&& (1431655765)) : Int32).toUInt32 >>> ((2 : Int32).toUInt32 &&& Int32.toUInt32 31)).toInt32) &&& (858993459)) : Int32).toUInt32 >>> ((4 : Int32).toUInt32 &&& Int32.toUInt32 31)).toInt32)) &&& (252645135)) + ((((((((nI n0) - ((((nI n0 : Int32).toUInt32 >>> ((1 : Int32).toUInt32 &&& Int32.toUInt32 31)).toInt32) &&& (1431655765))) &&& (858993459)) + (((((nI n0) - ((((nI n0 : Int32).toUInt32 >>> ((1 : Int32).toUInt32 &&& Int32.toUInt32 31)).toInt32) &&& (1431655765)) : Int32).toUInt32 >>> ((2 : Int32).toUInt32 &&& Int32.toUInt32 31)).toInt32) &&& (858993459))) + ((((((nI n0) - ((((nI n0 : Int32).toUInt32 >>> ((1 : Int32).toUInt32 &&& Int32.toUInt32 31)).toInt32) &&& (1431655765))) &&& (858993459)) + (((((nI n0) - ((((nI n0 : Int32).toUInt32 >>> ((1 : Int32).toUInt32 &&& Int32.toUInt32 31)).toInt32) &&& (1431655765)) : Int32).toUInt32 >>> ((2 : Int32).toUInt32 &&& Int32.toUInt32 31)).toInt32) &&& (858993459)) : Int32).toUInt32 >>> ((4 : Int32).toUInt32 &&& Int32.toUInt32 31)).toInt32)) &&& (252645135) : Int32).toUInt32 >>> ((8 : Int32).toUInt32 &&& Int32.toUInt32 31)).toInt32)) + (((((((((nI n0) - ((((nI n0 : Int32).toUInt32 >>> ((1 : Int32).toUInt32 &&& Int32.toUInt32 31)).toInt32) &&& (1431655765))) &&& (858993459)) + (((((nI n0) - ((((nI n0 : Int32).toUInt32 >>> ((1 : Int32).toUInt32 &&& Int32.toUInt32 31)).toInt32) &&& (1431655765)) : Int32).toUInt32 >>> ((2 : Int32).toUInt32 &&& Int32.toUInt32 31)).toInt32) &&& (858993459))) + ((((((nI n0) - ((((nI n0 : Int32).toUInt32 >>> ((1 : Int32).toUInt32 &&& Int32.toUInt32 31)).toInt32) &&& (1431655765))) &&& (858993459)) + (((((nI n0) - ((((nI n0 : Int32).toUInt32 >>> ((1 : Int32).toUInt32 &&& Int32.toUInt32 31)).toInt32) &&& (1431655765)) : Int32).toUInt32 >>> ((2 : Int32).toUInt32 &&& Int32.toUInt32 31)).toInt32) &&& (858993459)) : Int32).toUInt32 >>> ((4 : Int32).toUInt32 &&& Int32.toUInt32 31)).toInt32)) &&& (252645135)) + ((((((((nI n0) - ((((nI n0 : Int32).toUInt32 >>> ((1 : Int32).toUInt32 &&& Int32.toUInt32 31)).toInt32) &&& (1431655765))) &&& (858993459)) + (((((nI n0) - ((((nI n0 : Int32).toUInt32 >>> ((1 : Int32).toUInt32 &&& Int32.toUInt32 31)).toInt32) &&& (1431655765)) : Int32).toUInt32 >>> ((2 : Int32).toUInt32 &&& Int32.toUInt32 31)).toInt32) &&& (858993459))) + ((((((nI n0) - ((((nI n0 : Int32).toUInt32 >>> ((1 : Int32).toUInt32 &&& Int32.toUInt32 31)).toInt32) &&& (1431655765))) &&& (858993459)) + (((((nI n0) - ((((nI n0 : Int32).toUInt32 >>> ((1 : Int32).toUInt32 &&& Int32.toUInt32 31)).toInt32) &&& (1431655765)) : Int32).toUInt32 >>> ((2 : Int32).toUInt32 &&& Int32.toUInt32 31)).toInt32) &&& (858993459)) : Int32).toUInt32 >>> ((4 : Int32).toUInt32 &&& Int32.toUInt32 31)).toInt32)) &&& (252645135) : Int32).toUInt32 >>> ((8 : Int32).toUInt32 &&& Int32.toUInt32 31)).toInt32) : Int32).toUInt32 >>> ((16 : Int32).toUInt32 &&& Int32.toUInt32 31)).toInt32)) &&& 63 = nI (bc n0) := by decide +kernel
set_option maxRecDepth 100000 in
set_option maxHeartbeats 4000000 in
theorem c_bitCount (l : Launch) (D : va_G) (cI cR cM : ClassId) (sz : Nat) {n0 : Nat} (hn : n0 < 512) : Met l yJ6_bitCount_0f7a4 wsJ6_bitCount_0f7a4 ({ frames := 0, cells := 0, slots := 0, locals := 0 }) (P0 D cI cR cM [.int (nI n0)] sz []) (QE (some (.int (nI (bc n0)))) sz) 0 0 (va_A [] sz) := by
  refine go (cc := cJ6_bitCount_0f7a4) (maxL := 1) (ret := (some .int)) (by decide) rfl (Nat.le_of_ble_eq_true rfl) ?_
  intro p e s m below meth c ls args Q hQ hsz hx hb hr hml hts hown hlocks hnm hP hK hD hl
  subst hsz
  have hS : va_S (va_A [] s.heap.size) s.heap s.heap [] := va_S.rf
  have hA : ∀ q, s.heap.size ≤ q → va_A [] s.heap.size q := fun q h => Or.inr h
  have hl : lv_has ls 1 [(0, .int (nI n0))] := hl
  refine lv_iload_n hx hb dJ6_bitCount_0f7a4_0 rfl (lv_at hl 0 rfl) ?_
  refine lv_iload_n hx hb dJ6_bitCount_0f7a4_1 rfl (lv_at hl 0 rfl) ?_
  refine lv_iconst (v := 1) hx hb dJ6_bitCount_0f7a4_2 (by decide) ?_
  refine lv_iushr (v := ((nI n0 : Int32).toUInt32 >>> ((1 : Int32).toUInt32 &&& Int32.toUInt32 31)).toInt32) hx hb dJ6_bitCount_0f7a4_3 rfl ?_
  refine lv_ldcw hx hb hown (hts (.constant RJ6 265 (1431655765)) (by decide +kernel)) dJ6_bitCount_0f7a4_4 ?_
  refine lv_iand hx hb dJ6_bitCount_0f7a4_7 ?_
  refine lv_isub hx hb dJ6_bitCount_0f7a4_8 ?_
  refine lv_istore_n (lv' := [(0, .int ((nI n0) - ((((nI n0 : Int32).toUInt32 >>> ((1 : Int32).toUInt32 &&& Int32.toUInt32 31)).toInt32) &&& (1431655765))))]) hx hb dJ6_bitCount_0f7a4_9 rfl hl (by decide) rfl (fun ls hl => ?_)
  refine lv_iload_n hx hb dJ6_bitCount_0f7a4_10 rfl (lv_at hl 0 rfl) ?_
  refine lv_ldcw hx hb hown (hts (.constant RJ6 266 (858993459)) (by decide +kernel)) dJ6_bitCount_0f7a4_11 ?_
  refine lv_iand hx hb dJ6_bitCount_0f7a4_14 ?_
  refine lv_iload_n hx hb dJ6_bitCount_0f7a4_15 rfl (lv_at hl 0 rfl) ?_
  refine lv_iconst (v := 2) hx hb dJ6_bitCount_0f7a4_16 (by decide) ?_
  refine lv_iushr (v := (((nI n0) - ((((nI n0 : Int32).toUInt32 >>> ((1 : Int32).toUInt32 &&& Int32.toUInt32 31)).toInt32) &&& (1431655765)) : Int32).toUInt32 >>> ((2 : Int32).toUInt32 &&& Int32.toUInt32 31)).toInt32) hx hb dJ6_bitCount_0f7a4_17 rfl ?_
  refine lv_ldcw hx hb hown (hts (.constant RJ6 266 (858993459)) (by decide +kernel)) dJ6_bitCount_0f7a4_18 ?_
  refine lv_iand hx hb dJ6_bitCount_0f7a4_21 ?_
  refine lv_iadd hx hb dJ6_bitCount_0f7a4_22 ?_
  refine lv_istore_n (lv' := [(0, .int ((((nI n0) - ((((nI n0 : Int32).toUInt32 >>> ((1 : Int32).toUInt32 &&& Int32.toUInt32 31)).toInt32) &&& (1431655765))) &&& (858993459)) + (((((nI n0) - ((((nI n0 : Int32).toUInt32 >>> ((1 : Int32).toUInt32 &&& Int32.toUInt32 31)).toInt32) &&& (1431655765)) : Int32).toUInt32 >>> ((2 : Int32).toUInt32 &&& Int32.toUInt32 31)).toInt32) &&& (858993459))))]) hx hb dJ6_bitCount_0f7a4_23 rfl hl (by decide) rfl (fun ls hl => ?_)
  refine lv_iload_n hx hb dJ6_bitCount_0f7a4_24 rfl (lv_at hl 0 rfl) ?_
  refine lv_iload_n hx hb dJ6_bitCount_0f7a4_25 rfl (lv_at hl 0 rfl) ?_
  refine lv_iconst (v := 4) hx hb dJ6_bitCount_0f7a4_26 (by decide) ?_
  refine lv_iushr (v := (((((nI n0) - ((((nI n0 : Int32).toUInt32 >>> ((1 : Int32).toUInt32 &&& Int32.toUInt32 31)).toInt32) &&& (1431655765))) &&& (858993459)) + (((((nI n0) - ((((nI n0 : Int32).toUInt32 >>> ((1 : Int32).toUInt32 &&& Int32.toUInt32 31)).toInt32) &&& (1431655765)) : Int32).toUInt32 >>> ((2 : Int32).toUInt32 &&& Int32.toUInt32 31)).toInt32) &&& (858993459)) : Int32).toUInt32 >>> ((4 : Int32).toUInt32 &&& Int32.toUInt32 31)).toInt32) hx hb dJ6_bitCount_0f7a4_27 rfl ?_
  refine lv_iadd hx hb dJ6_bitCount_0f7a4_28 ?_
  refine lv_ldcw hx hb hown (hts (.constant RJ6 267 (252645135)) (by decide +kernel)) dJ6_bitCount_0f7a4_29 ?_
  refine lv_iand hx hb dJ6_bitCount_0f7a4_32 ?_
  refine lv_istore_n (lv' := [(0, .int ((((((nI n0) - ((((nI n0 : Int32).toUInt32 >>> ((1 : Int32).toUInt32 &&& Int32.toUInt32 31)).toInt32) &&& (1431655765))) &&& (858993459)) + (((((nI n0) - ((((nI n0 : Int32).toUInt32 >>> ((1 : Int32).toUInt32 &&& Int32.toUInt32 31)).toInt32) &&& (1431655765)) : Int32).toUInt32 >>> ((2 : Int32).toUInt32 &&& Int32.toUInt32 31)).toInt32) &&& (858993459))) + ((((((nI n0) - ((((nI n0 : Int32).toUInt32 >>> ((1 : Int32).toUInt32 &&& Int32.toUInt32 31)).toInt32) &&& (1431655765))) &&& (858993459)) + (((((nI n0) - ((((nI n0 : Int32).toUInt32 >>> ((1 : Int32).toUInt32 &&& Int32.toUInt32 31)).toInt32) &&& (1431655765)) : Int32).toUInt32 >>> ((2 : Int32).toUInt32 &&& Int32.toUInt32 31)).toInt32) &&& (858993459)) : Int32).toUInt32 >>> ((4 : Int32).toUInt32 &&& Int32.toUInt32 31)).toInt32)) &&& (252645135)))]) hx hb dJ6_bitCount_0f7a4_33 rfl hl (by decide) rfl (fun ls hl => ?_)
  refine lv_iload_n hx hb dJ6_bitCount_0f7a4_34 rfl (lv_at hl 0 rfl) ?_
  refine lv_iload_n hx hb dJ6_bitCount_0f7a4_35 rfl (lv_at hl 0 rfl) ?_
  refine lv_bipush (v := 8) hx hb dJ6_bitCount_0f7a4_36 (by decide) ?_
  refine lv_iushr (v := (((((((nI n0) - ((((nI n0 : Int32).toUInt32 >>> ((1 : Int32).toUInt32 &&& Int32.toUInt32 31)).toInt32) &&& (1431655765))) &&& (858993459)) + (((((nI n0) - ((((nI n0 : Int32).toUInt32 >>> ((1 : Int32).toUInt32 &&& Int32.toUInt32 31)).toInt32) &&& (1431655765)) : Int32).toUInt32 >>> ((2 : Int32).toUInt32 &&& Int32.toUInt32 31)).toInt32) &&& (858993459))) + ((((((nI n0) - ((((nI n0 : Int32).toUInt32 >>> ((1 : Int32).toUInt32 &&& Int32.toUInt32 31)).toInt32) &&& (1431655765))) &&& (858993459)) + (((((nI n0) - ((((nI n0 : Int32).toUInt32 >>> ((1 : Int32).toUInt32 &&& Int32.toUInt32 31)).toInt32) &&& (1431655765)) : Int32).toUInt32 >>> ((2 : Int32).toUInt32 &&& Int32.toUInt32 31)).toInt32) &&& (858993459)) : Int32).toUInt32 >>> ((4 : Int32).toUInt32 &&& Int32.toUInt32 31)).toInt32)) &&& (252645135) : Int32).toUInt32 >>> ((8 : Int32).toUInt32 &&& Int32.toUInt32 31)).toInt32) hx hb dJ6_bitCount_0f7a4_38 rfl ?_
  refine lv_iadd hx hb dJ6_bitCount_0f7a4_39 ?_
  refine lv_istore_n (lv' := [(0, .int (((((((nI n0) - ((((nI n0 : Int32).toUInt32 >>> ((1 : Int32).toUInt32 &&& Int32.toUInt32 31)).toInt32) &&& (1431655765))) &&& (858993459)) + (((((nI n0) - ((((nI n0 : Int32).toUInt32 >>> ((1 : Int32).toUInt32 &&& Int32.toUInt32 31)).toInt32) &&& (1431655765)) : Int32).toUInt32 >>> ((2 : Int32).toUInt32 &&& Int32.toUInt32 31)).toInt32) &&& (858993459))) + ((((((nI n0) - ((((nI n0 : Int32).toUInt32 >>> ((1 : Int32).toUInt32 &&& Int32.toUInt32 31)).toInt32) &&& (1431655765))) &&& (858993459)) + (((((nI n0) - ((((nI n0 : Int32).toUInt32 >>> ((1 : Int32).toUInt32 &&& Int32.toUInt32 31)).toInt32) &&& (1431655765)) : Int32).toUInt32 >>> ((2 : Int32).toUInt32 &&& Int32.toUInt32 31)).toInt32) &&& (858993459)) : Int32).toUInt32 >>> ((4 : Int32).toUInt32 &&& Int32.toUInt32 31)).toInt32)) &&& (252645135)) + ((((((((nI n0) - ((((nI n0 : Int32).toUInt32 >>> ((1 : Int32).toUInt32 &&& Int32.toUInt32 31)).toInt32) &&& (1431655765))) &&& (858993459)) + (((((nI n0) - ((((nI n0 : Int32).toUInt32 >>> ((1 : Int32).toUInt32 &&& Int32.toUInt32 31)).toInt32) &&& (1431655765)) : Int32).toUInt32 >>> ((2 : Int32).toUInt32 &&& Int32.toUInt32 31)).toInt32) &&& (858993459))) + ((((((nI n0) - ((((nI n0 : Int32).toUInt32 >>> ((1 : Int32).toUInt32 &&& Int32.toUInt32 31)).toInt32) &&& (1431655765))) &&& (858993459)) + (((((nI n0) - ((((nI n0 : Int32).toUInt32 >>> ((1 : Int32).toUInt32 &&& Int32.toUInt32 31)).toInt32) &&& (1431655765)) : Int32).toUInt32 >>> ((2 : Int32).toUInt32 &&& Int32.toUInt32 31)).toInt32) &&& (858993459)) : Int32).toUInt32 >>> ((4 : Int32).toUInt32 &&& Int32.toUInt32 31)).toInt32)) &&& (252645135) : Int32).toUInt32 >>> ((8 : Int32).toUInt32 &&& Int32.toUInt32 31)).toInt32)))]) hx hb dJ6_bitCount_0f7a4_40 rfl hl (by decide) rfl (fun ls hl => ?_)
  refine lv_iload_n hx hb dJ6_bitCount_0f7a4_41 rfl (lv_at hl 0 rfl) ?_
  refine lv_iload_n hx hb dJ6_bitCount_0f7a4_42 rfl (lv_at hl 0 rfl) ?_
  refine lv_bipush (v := 16) hx hb dJ6_bitCount_0f7a4_43 (by decide) ?_
  refine lv_iushr (v := ((((((((nI n0) - ((((nI n0 : Int32).toUInt32 >>> ((1 : Int32).toUInt32 &&& Int32.toUInt32 31)).toInt32) &&& (1431655765))) &&& (858993459)) + (((((nI n0) - ((((nI n0 : Int32).toUInt32 >>> ((1 : Int32).toUInt32 &&& Int32.toUInt32 31)).toInt32) &&& (1431655765)) : Int32).toUInt32 >>> ((2 : Int32).toUInt32 &&& Int32.toUInt32 31)).toInt32) &&& (858993459))) + ((((((nI n0) - ((((nI n0 : Int32).toUInt32 >>> ((1 : Int32).toUInt32 &&& Int32.toUInt32 31)).toInt32) &&& (1431655765))) &&& (858993459)) + (((((nI n0) - ((((nI n0 : Int32).toUInt32 >>> ((1 : Int32).toUInt32 &&& Int32.toUInt32 31)).toInt32) &&& (1431655765)) : Int32).toUInt32 >>> ((2 : Int32).toUInt32 &&& Int32.toUInt32 31)).toInt32) &&& (858993459)) : Int32).toUInt32 >>> ((4 : Int32).toUInt32 &&& Int32.toUInt32 31)).toInt32)) &&& (252645135)) + ((((((((nI n0) - ((((nI n0 : Int32).toUInt32 >>> ((1 : Int32).toUInt32 &&& Int32.toUInt32 31)).toInt32) &&& (1431655765))) &&& (858993459)) + (((((nI n0) - ((((nI n0 : Int32).toUInt32 >>> ((1 : Int32).toUInt32 &&& Int32.toUInt32 31)).toInt32) &&& (1431655765)) : Int32).toUInt32 >>> ((2 : Int32).toUInt32 &&& Int32.toUInt32 31)).toInt32) &&& (858993459))) + ((((((nI n0) - ((((nI n0 : Int32).toUInt32 >>> ((1 : Int32).toUInt32 &&& Int32.toUInt32 31)).toInt32) &&& (1431655765))) &&& (858993459)) + (((((nI n0) - ((((nI n0 : Int32).toUInt32 >>> ((1 : Int32).toUInt32 &&& Int32.toUInt32 31)).toInt32) &&& (1431655765)) : Int32).toUInt32 >>> ((2 : Int32).toUInt32 &&& Int32.toUInt32 31)).toInt32) &&& (858993459)) : Int32).toUInt32 >>> ((4 : Int32).toUInt32 &&& Int32.toUInt32 31)).toInt32)) &&& (252645135) : Int32).toUInt32 >>> ((8 : Int32).toUInt32 &&& Int32.toUInt32 31)).toInt32) : Int32).toUInt32 >>> ((16 : Int32).toUInt32 &&& Int32.toUInt32 31)).toInt32) hx hb dJ6_bitCount_0f7a4_45 rfl ?_
  refine lv_iadd hx hb dJ6_bitCount_0f7a4_46 ?_
  refine lv_istore_n (lv' := [(0, .int ((((((((nI n0) - ((((nI n0 : Int32).toUInt32 >>> ((1 : Int32).toUInt32 &&& Int32.toUInt32 31)).toInt32) &&& (1431655765))) &&& (858993459)) + (((((nI n0) - ((((nI n0 : Int32).toUInt32 >>> ((1 : Int32).toUInt32 &&& Int32.toUInt32 31)).toInt32) &&& (1431655765)) : Int32).toUInt32 >>> ((2 : Int32).toUInt32 &&& Int32.toUInt32 31)).toInt32) &&& (858993459))) + ((((((nI n0) - ((((nI n0 : Int32).toUInt32 >>> ((1 : Int32).toUInt32 &&& Int32.toUInt32 31)).toInt32) &&& (1431655765))) &&& (858993459)) + (((((nI n0) - ((((nI n0 : Int32).toUInt32 >>> ((1 : Int32).toUInt32 &&& Int32.toUInt32 31)).toInt32) &&& (1431655765)) : Int32).toUInt32 >>> ((2 : Int32).toUInt32 &&& Int32.toUInt32 31)).toInt32) &&& (858993459)) : Int32).toUInt32 >>> ((4 : Int32).toUInt32 &&& Int32.toUInt32 31)).toInt32)) &&& (252645135)) + ((((((((nI n0) - ((((nI n0 : Int32).toUInt32 >>> ((1 : Int32).toUInt32 &&& Int32.toUInt32 31)).toInt32) &&& (1431655765))) &&& (858993459)) + (((((nI n0) - ((((nI n0 : Int32).toUInt32 >>> ((1 : Int32).toUInt32 &&& Int32.toUInt32 31)).toInt32) &&& (1431655765)) : Int32).toUInt32 >>> ((2 : Int32).toUInt32 &&& Int32.toUInt32 31)).toInt32) &&& (858993459))) + ((((((nI n0) - ((((nI n0 : Int32).toUInt32 >>> ((1 : Int32).toUInt32 &&& Int32.toUInt32 31)).toInt32) &&& (1431655765))) &&& (858993459)) + (((((nI n0) - ((((nI n0 : Int32).toUInt32 >>> ((1 : Int32).toUInt32 &&& Int32.toUInt32 31)).toInt32) &&& (1431655765)) : Int32).toUInt32 >>> ((2 : Int32).toUInt32 &&& Int32.toUInt32 31)).toInt32) &&& (858993459)) : Int32).toUInt32 >>> ((4 : Int32).toUInt32 &&& Int32.toUInt32 31)).toInt32)) &&& (252645135) : Int32).toUInt32 >>> ((8 : Int32).toUInt32 &&& Int32.toUInt32 31)).toInt32)) + (((((((((nI n0) - ((((nI n0 : Int32).toUInt32 >>> ((1 : Int32).toUInt32 &&& Int32.toUInt32 31)).toInt32) &&& (1431655765))) &&& (858993459)) + (((((nI n0) - ((((nI n0 : Int32).toUInt32 >>> ((1 : Int32).toUInt32 &&& Int32.toUInt32 31)).toInt32) &&& (1431655765)) : Int32).toUInt32 >>> ((2 : Int32).toUInt32 &&& Int32.toUInt32 31)).toInt32) &&& (858993459))) + ((((((nI n0) - ((((nI n0 : Int32).toUInt32 >>> ((1 : Int32).toUInt32 &&& Int32.toUInt32 31)).toInt32) &&& (1431655765))) &&& (858993459)) + (((((nI n0) - ((((nI n0 : Int32).toUInt32 >>> ((1 : Int32).toUInt32 &&& Int32.toUInt32 31)).toInt32) &&& (1431655765)) : Int32).toUInt32 >>> ((2 : Int32).toUInt32 &&& Int32.toUInt32 31)).toInt32) &&& (858993459)) : Int32).toUInt32 >>> ((4 : Int32).toUInt32 &&& Int32.toUInt32 31)).toInt32)) &&& (252645135)) + ((((((((nI n0) - ((((nI n0 : Int32).toUInt32 >>> ((1 : Int32).toUInt32 &&& Int32.toUInt32 31)).toInt32) &&& (1431655765))) &&& (858993459)) + (((((nI n0) - ((((nI n0 : Int32).toUInt32 >>> ((1 : Int32).toUInt32 &&& Int32.toUInt32 31)).toInt32) &&& (1431655765)) : Int32).toUInt32 >>> ((2 : Int32).toUInt32 &&& Int32.toUInt32 31)).toInt32) &&& (858993459))) + ((((((nI n0) - ((((nI n0 : Int32).toUInt32 >>> ((1 : Int32).toUInt32 &&& Int32.toUInt32 31)).toInt32) &&& (1431655765))) &&& (858993459)) + (((((nI n0) - ((((nI n0 : Int32).toUInt32 >>> ((1 : Int32).toUInt32 &&& Int32.toUInt32 31)).toInt32) &&& (1431655765)) : Int32).toUInt32 >>> ((2 : Int32).toUInt32 &&& Int32.toUInt32 31)).toInt32) &&& (858993459)) : Int32).toUInt32 >>> ((4 : Int32).toUInt32 &&& Int32.toUInt32 31)).toInt32)) &&& (252645135) : Int32).toUInt32 >>> ((8 : Int32).toUInt32 &&& Int32.toUInt32 31)).toInt32) : Int32).toUInt32 >>> ((16 : Int32).toUInt32 &&& Int32.toUInt32 31)).toInt32)))]) hx hb dJ6_bitCount_0f7a4_47 rfl hl (by decide) rfl (fun ls hl => ?_)
  refine lv_iload_n hx hb dJ6_bitCount_0f7a4_48 rfl (lv_at hl 0 rfl) ?_
  refine lv_bipush (v := 63) hx hb dJ6_bitCount_0f7a4_49 (by decide) ?_
  refine lv_iand hx hb dJ6_bitCount_0f7a4_51 ?_
  exact ro_iret hx hb hr hlocks hS (l_bitCount_1 n0 hn ) hQ dJ6_bitCount_0f7a4_52
set_option maxRecDepth 100000 in
theorem l_bitsOf_1 : ∀ n0, n0 < 512 → ((((((((0 + (((nI n0 : Int32) >>> ((0 : Int32) &&& 31)) &&& 1)) + (((nI n0 : Int32) >>> ((1 : Int32) &&& 31)) &&& 1)) + (((nI n0 : Int32) >>> ((2 : Int32) &&& 31)) &&& 1)) + (((nI n0 : Int32) >>> ((3 : Int32) &&& 31)) &&& 1)) + (((nI n0 : Int32) >>> ((4 : Int32) &&& 31)) &&& 1)) + (((nI n0 : Int32) >>> ((5 : Int32) &&& 31)) &&& 1)) + (((nI n0 : Int32) >>> ((6 : Int32) &&& 31)) &&& 1)) + (((nI n0 : Int32) >>> ((7 : Int32) &&& 31)) &&& 1)) + (((nI n0 : Int32) >>> ((8 : Int32) &&& 31)) &&& 1) = nI (bc n0) := by decide +kernel
set_option maxRecDepth 100000 in
set_option maxHeartbeats 4000000 in
theorem c_bitsOf (l : Launch) (D : va_G) (cI cR cM : ClassId) (sz : Nat) {n0 : Nat} (hn : n0 < 512) : Met l yX11_bitsOf wsX11_bitsOf ({ frames := 0, cells := 0, slots := 0, locals := 0 }) (P0 D cI cR cM [.int (nI n0)] sz []) (QE (some (.int (nI (bc n0)))) sz) 0 0 (va_A [] sz) := by
  refine go (cc := cX11_bitsOf) (maxL := 3) (ret := (some .int)) (by decide) rfl (Nat.le_of_ble_eq_true rfl) ?_
  intro p e s m below meth c ls args Q hQ hsz hx hb hr hml hts hown hlocks hnm hP hK hD hl
  subst hsz
  have hS : va_S (va_A [] s.heap.size) s.heap s.heap [] := va_S.rf
  have hA : ∀ q, s.heap.size ≤ q → va_A [] s.heap.size q := fun q h => Or.inr h
  have hl : lv_has ls 3 [(0, .int (nI n0))] := hl
  refine lv_iconst (v := 0) hx hb dX11_bitsOf_0 (by decide) ?_
  refine lv_istore_n (lv' := [(1, .int 0), (0, .int (nI n0))]) hx hb dX11_bitsOf_1 rfl hl (by decide) rfl (fun ls hl => ?_)
  refine lv_iconst (v := 0) hx hb dX11_bitsOf_2 (by decide) ?_
  refine lv_istore_n (lv' := [(2, .int 0), (1, .int 0), (0, .int (nI n0))]) hx hb dX11_bitsOf_3 rfl hl (by decide) rfl (fun ls hl => ?_)
  refine lv_iload_n hx hb dX11_bitsOf_4 rfl (lv_at hl 0 rfl) ?_
  refine lv_bipush (v := 9) hx hb dX11_bitsOf_5 (by decide) ?_
  refine lv_icmp_ge (tgt := 24) hx hb dX11_bitsOf_7 (by decide) (fun c7 => absurd c7 (by decide)) (fun c7 => ?_)
  refine lv_iload_n hx hb dX11_bitsOf_10 rfl (lv_at hl 1 rfl) ?_
  refine lv_iload_n hx hb dX11_bitsOf_11 rfl (lv_at hl 2 rfl) ?_
  refine lv_iload_n hx hb dX11_bitsOf_12 rfl (lv_at hl 0 rfl) ?_
  refine lv_ishr hx hb dX11_bitsOf_13 ?_
  refine lv_iconst (v := 1) hx hb dX11_bitsOf_14 (by decide) ?_
  refine lv_iand hx hb dX11_bitsOf_15 ?_
  refine lv_iadd hx hb dX11_bitsOf_16 ?_
  refine lv_istore_n (lv' := [(1, .int (0 + (((nI n0 : Int32) >>> ((0 : Int32) &&& 31)) &&& 1))), (2, .int 0), (0, .int (nI n0))]) hx hb dX11_bitsOf_17 rfl hl (by decide) rfl (fun ls hl => ?_)
  refine lv_iinc (v := 1) (lv' := [(2, .int 1), (1, .int (0 + (((nI n0 : Int32) >>> ((0 : Int32) &&& 31)) &&& 1))), (0, .int (nI n0))]) hx hb dX11_bitsOf_18 hl (k := 1) rfl (by decide) (by decide) rfl (fun ls hl => ?_)
  refine lv_goto (tgt := 4) hx hb dX11_bitsOf_21 (by decide) ?_
  refine lv_iload_n hx hb dX11_bitsOf_4 rfl (lv_at hl 0 rfl) ?_
  refine lv_bipush (v := 9) hx hb dX11_bitsOf_5 (by decide) ?_
  refine lv_icmp_ge (tgt := 24) hx hb dX11_bitsOf_7 (by decide) (fun c7 => absurd c7 (by decide)) (fun c7 => ?_)
  refine lv_iload_n hx hb dX11_bitsOf_10 rfl (lv_at hl 1 rfl) ?_
  refine lv_iload_n hx hb dX11_bitsOf_11 rfl (lv_at hl 2 rfl) ?_
  refine lv_iload_n hx hb dX11_bitsOf_12 rfl (lv_at hl 0 rfl) ?_
  refine lv_ishr hx hb dX11_bitsOf_13 ?_
  refine lv_iconst (v := 1) hx hb dX11_bitsOf_14 (by decide) ?_
  refine lv_iand hx hb dX11_bitsOf_15 ?_
  refine lv_iadd hx hb dX11_bitsOf_16 ?_
  refine lv_istore_n (lv' := [(1, .int ((0 + (((nI n0 : Int32) >>> ((0 : Int32) &&& 31)) &&& 1)) + (((nI n0 : Int32) >>> ((1 : Int32) &&& 31)) &&& 1))), (2, .int 1), (0, .int (nI n0))]) hx hb dX11_bitsOf_17 rfl hl (by decide) rfl (fun ls hl => ?_)
  refine lv_iinc (v := 2) (lv' := [(2, .int 2), (1, .int ((0 + (((nI n0 : Int32) >>> ((0 : Int32) &&& 31)) &&& 1)) + (((nI n0 : Int32) >>> ((1 : Int32) &&& 31)) &&& 1))), (0, .int (nI n0))]) hx hb dX11_bitsOf_18 hl (k := 1) rfl (by decide) (by decide) rfl (fun ls hl => ?_)
  refine lv_goto (tgt := 4) hx hb dX11_bitsOf_21 (by decide) ?_
  refine lv_iload_n hx hb dX11_bitsOf_4 rfl (lv_at hl 0 rfl) ?_
  refine lv_bipush (v := 9) hx hb dX11_bitsOf_5 (by decide) ?_
  refine lv_icmp_ge (tgt := 24) hx hb dX11_bitsOf_7 (by decide) (fun c7 => absurd c7 (by decide)) (fun c7 => ?_)
  refine lv_iload_n hx hb dX11_bitsOf_10 rfl (lv_at hl 1 rfl) ?_
  refine lv_iload_n hx hb dX11_bitsOf_11 rfl (lv_at hl 2 rfl) ?_
  refine lv_iload_n hx hb dX11_bitsOf_12 rfl (lv_at hl 0 rfl) ?_
  refine lv_ishr hx hb dX11_bitsOf_13 ?_
  refine lv_iconst (v := 1) hx hb dX11_bitsOf_14 (by decide) ?_
  refine lv_iand hx hb dX11_bitsOf_15 ?_
  refine lv_iadd hx hb dX11_bitsOf_16 ?_
  refine lv_istore_n (lv' := [(1, .int (((0 + (((nI n0 : Int32) >>> ((0 : Int32) &&& 31)) &&& 1)) + (((nI n0 : Int32) >>> ((1 : Int32) &&& 31)) &&& 1)) + (((nI n0 : Int32) >>> ((2 : Int32) &&& 31)) &&& 1))), (2, .int 2), (0, .int (nI n0))]) hx hb dX11_bitsOf_17 rfl hl (by decide) rfl (fun ls hl => ?_)
  refine lv_iinc (v := 3) (lv' := [(2, .int 3), (1, .int (((0 + (((nI n0 : Int32) >>> ((0 : Int32) &&& 31)) &&& 1)) + (((nI n0 : Int32) >>> ((1 : Int32) &&& 31)) &&& 1)) + (((nI n0 : Int32) >>> ((2 : Int32) &&& 31)) &&& 1))), (0, .int (nI n0))]) hx hb dX11_bitsOf_18 hl (k := 1) rfl (by decide) (by decide) rfl (fun ls hl => ?_)
  refine lv_goto (tgt := 4) hx hb dX11_bitsOf_21 (by decide) ?_
  refine lv_iload_n hx hb dX11_bitsOf_4 rfl (lv_at hl 0 rfl) ?_
  refine lv_bipush (v := 9) hx hb dX11_bitsOf_5 (by decide) ?_
  refine lv_icmp_ge (tgt := 24) hx hb dX11_bitsOf_7 (by decide) (fun c7 => absurd c7 (by decide)) (fun c7 => ?_)
  refine lv_iload_n hx hb dX11_bitsOf_10 rfl (lv_at hl 1 rfl) ?_
  refine lv_iload_n hx hb dX11_bitsOf_11 rfl (lv_at hl 2 rfl) ?_
  refine lv_iload_n hx hb dX11_bitsOf_12 rfl (lv_at hl 0 rfl) ?_
  refine lv_ishr hx hb dX11_bitsOf_13 ?_
  refine lv_iconst (v := 1) hx hb dX11_bitsOf_14 (by decide) ?_
  refine lv_iand hx hb dX11_bitsOf_15 ?_
  refine lv_iadd hx hb dX11_bitsOf_16 ?_
  refine lv_istore_n (lv' := [(1, .int ((((0 + (((nI n0 : Int32) >>> ((0 : Int32) &&& 31)) &&& 1)) + (((nI n0 : Int32) >>> ((1 : Int32) &&& 31)) &&& 1)) + (((nI n0 : Int32) >>> ((2 : Int32) &&& 31)) &&& 1)) + (((nI n0 : Int32) >>> ((3 : Int32) &&& 31)) &&& 1))), (2, .int 3), (0, .int (nI n0))]) hx hb dX11_bitsOf_17 rfl hl (by decide) rfl (fun ls hl => ?_)
  refine lv_iinc (v := 4) (lv' := [(2, .int 4), (1, .int ((((0 + (((nI n0 : Int32) >>> ((0 : Int32) &&& 31)) &&& 1)) + (((nI n0 : Int32) >>> ((1 : Int32) &&& 31)) &&& 1)) + (((nI n0 : Int32) >>> ((2 : Int32) &&& 31)) &&& 1)) + (((nI n0 : Int32) >>> ((3 : Int32) &&& 31)) &&& 1))), (0, .int (nI n0))]) hx hb dX11_bitsOf_18 hl (k := 1) rfl (by decide) (by decide) rfl (fun ls hl => ?_)
  refine lv_goto (tgt := 4) hx hb dX11_bitsOf_21 (by decide) ?_
  refine lv_iload_n hx hb dX11_bitsOf_4 rfl (lv_at hl 0 rfl) ?_
  refine lv_bipush (v := 9) hx hb dX11_bitsOf_5 (by decide) ?_
  refine lv_icmp_ge (tgt := 24) hx hb dX11_bitsOf_7 (by decide) (fun c7 => absurd c7 (by decide)) (fun c7 => ?_)
  refine lv_iload_n hx hb dX11_bitsOf_10 rfl (lv_at hl 1 rfl) ?_
  refine lv_iload_n hx hb dX11_bitsOf_11 rfl (lv_at hl 2 rfl) ?_
  refine lv_iload_n hx hb dX11_bitsOf_12 rfl (lv_at hl 0 rfl) ?_
  refine lv_ishr hx hb dX11_bitsOf_13 ?_
  refine lv_iconst (v := 1) hx hb dX11_bitsOf_14 (by decide) ?_
  refine lv_iand hx hb dX11_bitsOf_15 ?_
  refine lv_iadd hx hb dX11_bitsOf_16 ?_
  refine lv_istore_n (lv' := [(1, .int (((((0 + (((nI n0 : Int32) >>> ((0 : Int32) &&& 31)) &&& 1)) + (((nI n0 : Int32) >>> ((1 : Int32) &&& 31)) &&& 1)) + (((nI n0 : Int32) >>> ((2 : Int32) &&& 31)) &&& 1)) + (((nI n0 : Int32) >>> ((3 : Int32) &&& 31)) &&& 1)) + (((nI n0 : Int32) >>> ((4 : Int32) &&& 31)) &&& 1))), (2, .int 4), (0, .int (nI n0))]) hx hb dX11_bitsOf_17 rfl hl (by decide) rfl (fun ls hl => ?_)
  refine lv_iinc (v := 5) (lv' := [(2, .int 5), (1, .int (((((0 + (((nI n0 : Int32) >>> ((0 : Int32) &&& 31)) &&& 1)) + (((nI n0 : Int32) >>> ((1 : Int32) &&& 31)) &&& 1)) + (((nI n0 : Int32) >>> ((2 : Int32) &&& 31)) &&& 1)) + (((nI n0 : Int32) >>> ((3 : Int32) &&& 31)) &&& 1)) + (((nI n0 : Int32) >>> ((4 : Int32) &&& 31)) &&& 1))), (0, .int (nI n0))]) hx hb dX11_bitsOf_18 hl (k := 1) rfl (by decide) (by decide) rfl (fun ls hl => ?_)
  refine lv_goto (tgt := 4) hx hb dX11_bitsOf_21 (by decide) ?_
  refine lv_iload_n hx hb dX11_bitsOf_4 rfl (lv_at hl 0 rfl) ?_
  refine lv_bipush (v := 9) hx hb dX11_bitsOf_5 (by decide) ?_
  refine lv_icmp_ge (tgt := 24) hx hb dX11_bitsOf_7 (by decide) (fun c7 => absurd c7 (by decide)) (fun c7 => ?_)
  refine lv_iload_n hx hb dX11_bitsOf_10 rfl (lv_at hl 1 rfl) ?_
  refine lv_iload_n hx hb dX11_bitsOf_11 rfl (lv_at hl 2 rfl) ?_
  refine lv_iload_n hx hb dX11_bitsOf_12 rfl (lv_at hl 0 rfl) ?_
  refine lv_ishr hx hb dX11_bitsOf_13 ?_
  refine lv_iconst (v := 1) hx hb dX11_bitsOf_14 (by decide) ?_
  refine lv_iand hx hb dX11_bitsOf_15 ?_
  refine lv_iadd hx hb dX11_bitsOf_16 ?_
  refine lv_istore_n (lv' := [(1, .int ((((((0 + (((nI n0 : Int32) >>> ((0 : Int32) &&& 31)) &&& 1)) + (((nI n0 : Int32) >>> ((1 : Int32) &&& 31)) &&& 1)) + (((nI n0 : Int32) >>> ((2 : Int32) &&& 31)) &&& 1)) + (((nI n0 : Int32) >>> ((3 : Int32) &&& 31)) &&& 1)) + (((nI n0 : Int32) >>> ((4 : Int32) &&& 31)) &&& 1)) + (((nI n0 : Int32) >>> ((5 : Int32) &&& 31)) &&& 1))), (2, .int 5), (0, .int (nI n0))]) hx hb dX11_bitsOf_17 rfl hl (by decide) rfl (fun ls hl => ?_)
  refine lv_iinc (v := 6) (lv' := [(2, .int 6), (1, .int ((((((0 + (((nI n0 : Int32) >>> ((0 : Int32) &&& 31)) &&& 1)) + (((nI n0 : Int32) >>> ((1 : Int32) &&& 31)) &&& 1)) + (((nI n0 : Int32) >>> ((2 : Int32) &&& 31)) &&& 1)) + (((nI n0 : Int32) >>> ((3 : Int32) &&& 31)) &&& 1)) + (((nI n0 : Int32) >>> ((4 : Int32) &&& 31)) &&& 1)) + (((nI n0 : Int32) >>> ((5 : Int32) &&& 31)) &&& 1))), (0, .int (nI n0))]) hx hb dX11_bitsOf_18 hl (k := 1) rfl (by decide) (by decide) rfl (fun ls hl => ?_)
  refine lv_goto (tgt := 4) hx hb dX11_bitsOf_21 (by decide) ?_
  refine lv_iload_n hx hb dX11_bitsOf_4 rfl (lv_at hl 0 rfl) ?_
  refine lv_bipush (v := 9) hx hb dX11_bitsOf_5 (by decide) ?_
  refine lv_icmp_ge (tgt := 24) hx hb dX11_bitsOf_7 (by decide) (fun c7 => absurd c7 (by decide)) (fun c7 => ?_)
  refine lv_iload_n hx hb dX11_bitsOf_10 rfl (lv_at hl 1 rfl) ?_
  refine lv_iload_n hx hb dX11_bitsOf_11 rfl (lv_at hl 2 rfl) ?_
  refine lv_iload_n hx hb dX11_bitsOf_12 rfl (lv_at hl 0 rfl) ?_
  refine lv_ishr hx hb dX11_bitsOf_13 ?_
  refine lv_iconst (v := 1) hx hb dX11_bitsOf_14 (by decide) ?_
  refine lv_iand hx hb dX11_bitsOf_15 ?_
  refine lv_iadd hx hb dX11_bitsOf_16 ?_
  refine lv_istore_n (lv' := [(1, .int (((((((0 + (((nI n0 : Int32) >>> ((0 : Int32) &&& 31)) &&& 1)) + (((nI n0 : Int32) >>> ((1 : Int32) &&& 31)) &&& 1)) + (((nI n0 : Int32) >>> ((2 : Int32) &&& 31)) &&& 1)) + (((nI n0 : Int32) >>> ((3 : Int32) &&& 31)) &&& 1)) + (((nI n0 : Int32) >>> ((4 : Int32) &&& 31)) &&& 1)) + (((nI n0 : Int32) >>> ((5 : Int32) &&& 31)) &&& 1)) + (((nI n0 : Int32) >>> ((6 : Int32) &&& 31)) &&& 1))), (2, .int 6), (0, .int (nI n0))]) hx hb dX11_bitsOf_17 rfl hl (by decide) rfl (fun ls hl => ?_)
  refine lv_iinc (v := 7) (lv' := [(2, .int 7), (1, .int (((((((0 + (((nI n0 : Int32) >>> ((0 : Int32) &&& 31)) &&& 1)) + (((nI n0 : Int32) >>> ((1 : Int32) &&& 31)) &&& 1)) + (((nI n0 : Int32) >>> ((2 : Int32) &&& 31)) &&& 1)) + (((nI n0 : Int32) >>> ((3 : Int32) &&& 31)) &&& 1)) + (((nI n0 : Int32) >>> ((4 : Int32) &&& 31)) &&& 1)) + (((nI n0 : Int32) >>> ((5 : Int32) &&& 31)) &&& 1)) + (((nI n0 : Int32) >>> ((6 : Int32) &&& 31)) &&& 1))), (0, .int (nI n0))]) hx hb dX11_bitsOf_18 hl (k := 1) rfl (by decide) (by decide) rfl (fun ls hl => ?_)
  refine lv_goto (tgt := 4) hx hb dX11_bitsOf_21 (by decide) ?_
  refine lv_iload_n hx hb dX11_bitsOf_4 rfl (lv_at hl 0 rfl) ?_
  refine lv_bipush (v := 9) hx hb dX11_bitsOf_5 (by decide) ?_
  refine lv_icmp_ge (tgt := 24) hx hb dX11_bitsOf_7 (by decide) (fun c7 => absurd c7 (by decide)) (fun c7 => ?_)
  refine lv_iload_n hx hb dX11_bitsOf_10 rfl (lv_at hl 1 rfl) ?_
  refine lv_iload_n hx hb dX11_bitsOf_11 rfl (lv_at hl 2 rfl) ?_
  refine lv_iload_n hx hb dX11_bitsOf_12 rfl (lv_at hl 0 rfl) ?_
  refine lv_ishr hx hb dX11_bitsOf_13 ?_
  refine lv_iconst (v := 1) hx hb dX11_bitsOf_14 (by decide) ?_
  refine lv_iand hx hb dX11_bitsOf_15 ?_
  refine lv_iadd hx hb dX11_bitsOf_16 ?_
  refine lv_istore_n (lv' := [(1, .int ((((((((0 + (((nI n0 : Int32) >>> ((0 : Int32) &&& 31)) &&& 1)) + (((nI n0 : Int32) >>> ((1 : Int32) &&& 31)) &&& 1)) + (((nI n0 : Int32) >>> ((2 : Int32) &&& 31)) &&& 1)) + (((nI n0 : Int32) >>> ((3 : Int32) &&& 31)) &&& 1)) + (((nI n0 : Int32) >>> ((4 : Int32) &&& 31)) &&& 1)) + (((nI n0 : Int32) >>> ((5 : Int32) &&& 31)) &&& 1)) + (((nI n0 : Int32) >>> ((6 : Int32) &&& 31)) &&& 1)) + (((nI n0 : Int32) >>> ((7 : Int32) &&& 31)) &&& 1))), (2, .int 7), (0, .int (nI n0))]) hx hb dX11_bitsOf_17 rfl hl (by decide) rfl (fun ls hl => ?_)
  refine lv_iinc (v := 8) (lv' := [(2, .int 8), (1, .int ((((((((0 + (((nI n0 : Int32) >>> ((0 : Int32) &&& 31)) &&& 1)) + (((nI n0 : Int32) >>> ((1 : Int32) &&& 31)) &&& 1)) + (((nI n0 : Int32) >>> ((2 : Int32) &&& 31)) &&& 1)) + (((nI n0 : Int32) >>> ((3 : Int32) &&& 31)) &&& 1)) + (((nI n0 : Int32) >>> ((4 : Int32) &&& 31)) &&& 1)) + (((nI n0 : Int32) >>> ((5 : Int32) &&& 31)) &&& 1)) + (((nI n0 : Int32) >>> ((6 : Int32) &&& 31)) &&& 1)) + (((nI n0 : Int32) >>> ((7 : Int32) &&& 31)) &&& 1))), (0, .int (nI n0))]) hx hb dX11_bitsOf_18 hl (k := 1) rfl (by decide) (by decide) rfl (fun ls hl => ?_)
  refine lv_goto (tgt := 4) hx hb dX11_bitsOf_21 (by decide) ?_
  refine lv_iload_n hx hb dX11_bitsOf_4 rfl (lv_at hl 0 rfl) ?_
  refine lv_bipush (v := 9) hx hb dX11_bitsOf_5 (by decide) ?_
  refine lv_icmp_ge (tgt := 24) hx hb dX11_bitsOf_7 (by decide) (fun c7 => absurd c7 (by decide)) (fun c7 => ?_)
  refine lv_iload_n hx hb dX11_bitsOf_10 rfl (lv_at hl 1 rfl) ?_
  refine lv_iload_n hx hb dX11_bitsOf_11 rfl (lv_at hl 2 rfl) ?_
  refine lv_iload_n hx hb dX11_bitsOf_12 rfl (lv_at hl 0 rfl) ?_
  refine lv_ishr hx hb dX11_bitsOf_13 ?_
  refine lv_iconst (v := 1) hx hb dX11_bitsOf_14 (by decide) ?_
  refine lv_iand hx hb dX11_bitsOf_15 ?_
  refine lv_iadd hx hb dX11_bitsOf_16 ?_
  refine lv_istore_n (lv' := [(1, .int (((((((((0 + (((nI n0 : Int32) >>> ((0 : Int32) &&& 31)) &&& 1)) + (((nI n0 : Int32) >>> ((1 : Int32) &&& 31)) &&& 1)) + (((nI n0 : Int32) >>> ((2 : Int32) &&& 31)) &&& 1)) + (((nI n0 : Int32) >>> ((3 : Int32) &&& 31)) &&& 1)) + (((nI n0 : Int32) >>> ((4 : Int32) &&& 31)) &&& 1)) + (((nI n0 : Int32) >>> ((5 : Int32) &&& 31)) &&& 1)) + (((nI n0 : Int32) >>> ((6 : Int32) &&& 31)) &&& 1)) + (((nI n0 : Int32) >>> ((7 : Int32) &&& 31)) &&& 1)) + (((nI n0 : Int32) >>> ((8 : Int32) &&& 31)) &&& 1))), (2, .int 8), (0, .int (nI n0))]) hx hb dX11_bitsOf_17 rfl hl (by decide) rfl (fun ls hl => ?_)
  refine lv_iinc (v := 9) (lv' := [(2, .int 9), (1, .int (((((((((0 + (((nI n0 : Int32) >>> ((0 : Int32) &&& 31)) &&& 1)) + (((nI n0 : Int32) >>> ((1 : Int32) &&& 31)) &&& 1)) + (((nI n0 : Int32) >>> ((2 : Int32) &&& 31)) &&& 1)) + (((nI n0 : Int32) >>> ((3 : Int32) &&& 31)) &&& 1)) + (((nI n0 : Int32) >>> ((4 : Int32) &&& 31)) &&& 1)) + (((nI n0 : Int32) >>> ((5 : Int32) &&& 31)) &&& 1)) + (((nI n0 : Int32) >>> ((6 : Int32) &&& 31)) &&& 1)) + (((nI n0 : Int32) >>> ((7 : Int32) &&& 31)) &&& 1)) + (((nI n0 : Int32) >>> ((8 : Int32) &&& 31)) &&& 1))), (0, .int (nI n0))]) hx hb dX11_bitsOf_18 hl (k := 1) rfl (by decide) (by decide) rfl (fun ls hl => ?_)
  refine lv_goto (tgt := 4) hx hb dX11_bitsOf_21 (by decide) ?_
  refine lv_iload_n hx hb dX11_bitsOf_4 rfl (lv_at hl 0 rfl) ?_
  refine lv_bipush (v := 9) hx hb dX11_bitsOf_5 (by decide) ?_
  refine lv_icmp_ge (tgt := 24) hx hb dX11_bitsOf_7 (by decide) (fun c7 => ?_) (fun c7 => absurd (by decide) c7)
  refine lv_iload_n hx hb dX11_bitsOf_24 rfl (lv_at hl 1 rfl) ?_
  exact ro_iret hx hb hr hlocks hS (l_bitsOf_1 n0 hn ) hQ dX11_bitsOf_25
set_option maxRecDepth 100000 in
set_option maxHeartbeats 4000000 in
theorem c_isIn (l : Launch) (D : va_G) (cI cR cM : ClassId) (sz : Nat) (v0 lo hi : Int32) : Met l yX11_isIn wsX11_isIn ({ frames := 0, cells := 0, slots := 0, locals := 0 }) (P0 D cI cR cM [.int v0, .int lo, .int hi] sz []) (QE (some (.int (inI v0 lo hi))) sz) 0 0 (va_A [] sz) := by
  refine go (cc := cX11_isIn) (maxL := 3) (ret := (some .boolean)) (by decide) rfl (Nat.le_of_ble_eq_true rfl) ?_
  intro p e s m below meth c ls args Q hQ hsz hx hb hr hml hts hown hlocks hnm hP hK hD hl
  subst hsz
  have hS : va_S (va_A [] s.heap.size) s.heap s.heap [] := va_S.rf
  have hA : ∀ q, s.heap.size ≤ q → va_A [] s.heap.size q := fun q h => Or.inr h
  have hl : lv_has ls 3 [(0, .int v0), (1, .int lo), (2, .int hi)] := hl
  refine lv_iload_n hx hb dX11_isIn_0 rfl (lv_at hl 0 rfl) ?_
  refine lv_iload_n hx hb dX11_isIn_1 rfl (lv_at hl 1 rfl) ?_
  refine lv_icmp_lt (tgt := 14) hx hb dX11_isIn_2 (by decide) (fun c2 => ?_) (fun c2 => ?_)
  · refine lv_iconst (v := 0) hx hb dX11_isIn_14 (by decide) ?_
    exact ro_zret hx hb hr hlocks hS (by decide) (by simp [inI, c2]) hQ dX11_isIn_15
  · refine lv_iload_n hx hb dX11_isIn_5 rfl (lv_at hl 0 rfl) ?_
    refine lv_iload_n hx hb dX11_isIn_6 rfl (lv_at hl 2 rfl) ?_
    refine lv_icmp_gt (tgt := 14) hx hb dX11_isIn_7 (by decide) (fun c7 => ?_) (fun c7 => ?_)
    · refine lv_iconst (v := 0) hx hb dX11_isIn_14 (by decide) ?_
      exact ro_zret hx hb hr hlocks hS (by decide) (by simp [inI, c2, c7]) hQ dX11_isIn_15
    · refine lv_iconst (v := 1) hx hb dX11_isIn_10 (by decide) ?_
      refine lv_goto (tgt := 15) hx hb dX11_isIn_11 (by decide) ?_
      exact ro_zret hx hb hr hlocks hS (by decide) (by simp [inI, c2, c7]) hQ dX11_isIn_15
