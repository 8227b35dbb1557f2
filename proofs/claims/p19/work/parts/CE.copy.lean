/-- cells belong to rows that are there -/
def OWN (L : List Nat) (S : Sg) : Prop := ∀ a, a ∈ L → (S a).1 = 1 → (S a).2.2 ∈ L
theorem FRX_one {L0 L : List Nat} {S0 S : Sg} {T : List Nat} {f0 f f1 : Nat → va_E} {r : Nat} (h : FRX L0 S0 T f0 f) (hX : EXT L0 S0 L S) (hf : FX S (fun a => a = r) [] f f1) (hr : r ∉ L0) (ho : OWN L0 S0) : FRX L0 S0 T f0 f1 := fun b hm hb => by
  rw [hf b (fun e => ?_) (fun e => by cases e)]
  · exact h b hm hb
  · have e : own S b = r := e
    unfold own at e
    by_cases q : (S b).1 = 1
    · rw [if_pos q] at e
      have h9 := ho b hm (by rw [← (hX b hm).2]; exact q)
      rw [← (hX b hm).2, e] at h9
      exact hr h9
    · rw [if_neg q] at e
      rw [e] at hm
      exact hr hm
theorem RWf_ext {cI cR cM : ClassId} {jn : Nat} {g : Nat → Nat} {L L1 : List Nat} {S S1 : Sg} {f f1 : Nat → va_E} {T : List Nat} {b p N : Nat} {n : Int} {w : Int → Int} (h : RWf cI jn S f b n w) (hI : IN jn cI cR cM g L S f) (hb : isRow L S b p N) (hX : EXT L S L1 S1) (hF : FRX L S T f f1) (ht : 0 ∉ T ∧ 1 ∉ T) : RWf cI jn S1 f1 b n w := by
  obtain ⟨p9, N9, l9, c9, a1, a2, a3, a4, a5, a6⟩ := h
  obtain ⟨len, b1, b2, b3, b4, b5, b6⟩ := op_0 hI hb.1 a1
  refine ⟨p9, N9, l9, c9, by rw [(hX b hb.1).2]; exact a1, by rw [(hX p9 b5).2]; exact a2, ?_, ?_, a5, a6⟩
  · rw [hF b hb.1 (by rw [a1]; exact ht.1)]; exact a3
  · rw [hF p9 b5 (by rw [a2]; exact ht.2)]; exact a4
set_option maxRecDepth 100000 in
set_option maxHeartbeats 4000000 in
theorem t_X5_copym (l : Launch) (D : va_G) (cI cR cM : ClassId) (sz : Nat) {jn : Nat} {g : Nat → Nat} {L : List Nat} {S : Sg} {f : Nat → va_E} {b b_p b_n : Nat} {b_l : Int32} {b_c : Nat → Int32} {w : Int → Int} (hj : 1 ≤ jn ∧ jn ≤ 3) (hG : SG g L S) (hI : IN jn cI cR cM g L S f) (m_b : b ∈ L) (s_b : S b = (0, b_p, b_n)) (f_b : f b = .inr (5, [.int (nI jn), .int (nI (2 * jn)), .ref b_p, .int b_l])) (f_b_p : f b_p = .inl (cI, b_n, .inl b_c)) (hj1 : jn = 1) (hRC : RC b_c w b_l.toInt) (hOW : OWN L S) : Met l yX5_copy wsX5_copy ({ frames := 3, cells := 2, slots := 148, locals := 109 }) (P0 D cI cR cM [.ref b] sz (va_pl L f)) (QG (S := Nat × List Nat × Sg × (Nat → va_E)) (fun u => some (.ref u.1)) (fun u => va_pl (u.2.1) (u.2.2.2)) (fun u => EXT L S u.2.1 u.2.2.1 ∧ IN jn cI cR cM g u.2.1 u.2.2.1 u.2.2.2 ∧ FRX L S [] f (u.2.2.2) ∧ (∃ p9 n9, isRow (u.2.1) (u.2.2.1) (u.1) p9 n9) ∧ (RWf cI jn (u.2.2.1) (u.2.2.2) (u.1) b_l.toInt w) ∧ ((u.1) ∉ L) ∧ (OWN (u.2.1) (u.2.2.1))) D (va_A (va_pl L f) sz)) 2 148 (va_A (va_pl L f) sz) := by
  refine go (cc := cX5_copy) (maxL := 2) (ret := (some (.object "JugglingHall$Row"))) (by decide +kernel) rfl (Nat.le_of_ble_eq_true rfl) ?_
  intro p e s m below meth c ls args Q hQ hsz hx hb hr hml hts hown hlocks hnm hP hK hD hl
  subst hsz
  have hD := hD.self (sz := s.heap.size)
  generalize hAe : va_A (va_pl L f) s.heap.size = A at hD hQ
  have hA : ∀ q, s.heap.size ≤ q → A q := fun q h => by rw [← hAe]; exact Or.inr h
  have hS : va_S A s.heap s.heap [] := va_S.rf
  obtain ⟨L0, eL0⟩ : ∃ x, x = L := ⟨_, rfl⟩
  obtain ⟨S0, eS0⟩ : ∃ x, x = S := ⟨_, rfl⟩
  have hX : EXT L0 S0 L S := by rw [eL0, eS0]; exact EXT_rf
  have hF : FRX L0 S0 [] f f := FRX_rf
  have hl : lv_has ls 2 [(0, .ref b)] := hl
  obtain ⟨v1_b, v2_b, v3_b, m_b_p, s_b_p⟩ := iv_0 hI m_b s_b f_b
  obtain ⟨w1_b, w2_b, w3_b, w4_b, w5_b⟩ := lenw hj v1_b v2_b v3_b
  have k_b := iv_1 hI m_b_p s_b_p f_b_p
  have hOW0 := hOW
  refine va_new (D := D) (ci := 5) (fs := [.int 0, .int 0, .null, .int 0]) (C := RX5) (T := TX5) (N := 4) hx hb hts (by decide +kernel) tyX5 tyX5_ok hown (hts (.classLink RX5 16 RX5) (by decide +kernel)) (hts (.instantiable RX5 4) (by decide +kernel)) (hts (.initialized RX5) (by decide +kernel)) hK.1 hP hD hS hA rfl (fun j hj => by rcases (show j = 0 ∨ j = 1 ∨ j = 2 ∨ j = 3 by omega) with rfl | rfl | rfl | rfl <;> rfl) (Nat.le_of_ble_eq_true rfl) (Nat.le_of_ble_eq_true rfl) dX5_copy_0 (fun o_1 H hP hD hS => ?_)
  have hPo : va_P D vwCl ([(o_1, .inr (5, [.int 0, .int 0, .null, .int 0]))] ++ va_pl L f) H := swP hP
  have hDo : va_D A ([(o_1, .inr (5, [.int 0, .int 0, .null, .int 0]))] ++ va_pl L f) := swD hD
  have hP := tail_P hPo
  have hD := tail_D hDo
  refine W.widen (k := 1) (n := 4) (Nat.le_of_ble_eq_true rfl) (Nat.le_of_ble_eq_true rfl) ?_
  refine lv_dup hx hb dX5_copy_3 rfl ?_
  refine lv_aload_n hx hb dX5_copy_4 rfl (lv_at hl 0 rfl) ?_
  refine t_get (D := D) (L := L) (f := f) (ci := 5) (v := .int (nI jn)) (C := RX5) (T := TX5) (N := 4) hx hb hts (by decide +kernel) hown hK.1 hP m_b f_b rfl 0 (by decide) (hts (.fieldLink RX5 15 "JugglingHall$Row" "jugglers" "I") (by decide +kernel)) (fun _ h9 => h9) rfl dX5_copy_5 ?_
  refine lv_aload_n hx hb dX5_copy_8 rfl (lv_at hl 0 rfl) ?_
  refine t_get (D := D) (L := L) (f := f) (ci := 5) (v := .int b_l) (C := RX5) (T := TX5) (N := 4) hx hb hts (by decide +kernel) hown hK.1 hP m_b f_b rfl 3 (by decide) (hts (.fieldLink RX5 28 "JugglingHall$Row" "length" "I") (by decide +kernel)) (fun _ h9 => h9) rfl dX5_copy_9 ?_
  obtain ⟨k_2, hk_2, ek_2⟩ := nI_ex (x := b_l) (N := 73) (by subst hj1; omega) (by decide)
  have ei_2 : b_l.toInt = (k_2 : Int) := by rw [ek_2, nI_toInt (by subst hj1; omega)]
  have hm_2 : k_2 * (jn * 2) ≤ 144 := by rcases j3 hj with h9 | h9 | h9 <;> subst h9 <;> omega
  refine lv_eqi (y := nI k_2) ek_2 ?_
  have hP1 := head_P hPo
  have hD1 := d_one o_1 (.inr (5, [.int 0, .int 0, .null, .int 0]))
  refine call_new (a := o_1) (eo := .inr (5, [.int 0, .int 0, .null, .int 0])) (L := L) (f := f) (va_runI (As := [.int (nI jn), .int (nI k_2)]) (rest := [.ref o_1]) ⟨hx, hb, hml, hown, hts⟩ (c_Row_init l D cI cR cM _ hj.1 hj.2 (cap := k_2) (by subst hj1; omega) hm_2 o_1) (cwI 2 hts ggX5_copy_X5_init rfl rfl rfl (hts (.initialized RX5) (by decide +kernel)) (hts (.methodLink RX5 76 yX5_init) (by decide +kernel)) (hts (.instanceMethod yX5_init) (by decide +kernel)) rfl (by decide +kernel) ⟨Nat.le_of_ble_eq_true rfl, Nat.le_of_ble_eq_true rfl⟩) (pre_S hK hP1 hD1) rfl rfl hl.1 rfl (lv_room (Nat.le_of_ble_eq_true rfl)) dX5_copy_12 ⟨Nat.le_of_ble_eq_true rfl, Nat.le_of_ble_eq_true rfl⟩) hPo hDo hS hA (fun u_2 H locs hw hP hD hS => ?_)
  have hP : va_P D vwCl ([(o_1, .inr (5, [.int (nI jn), .int (nI (2 * jn)), .ref (u_2 0), .int 0])), ((u_2 0), .inl (cI, k_2 * (jn * 2), .inl (fun _ => 0)))] ++ va_pl L f) H := by rw [Nat.mul_comm 2 jn]; exact hP
  have hD : va_D A ([(o_1, .inr (5, [.int (nI jn), .int (nI (2 * jn)), .ref (u_2 0), .int 0])), ((u_2 0), .inl (cI, k_2 * (jn * 2), .inl (fun _ => 0)))] ++ va_pl L f) := by rw [Nat.mul_comm 2 jn]; exact hD
  obtain ⟨f_2, fo_2, fq_2, hfL_2, ho_2, hq_2, hoq_2, hP, hD⟩ := absorb hP hD
  have fb_3 : f_2 b = .inr (5, [.int (nI jn), .int (nI (2 * jn)), .ref b_p, .int b_l]) := (hfL_2 _ m_b).trans f_b
  have fb_4 : f_2 b_p = .inl (cI, b_n, .inl b_c) := (hfL_2 _ m_b_p).trans f_b_p
  have hF := FRX_trX (T1 := []) hF hX (fun b hb _ => hfL_2 b hb) (fun t ht => absurd ht (List.not_mem_nil))
  obtain ⟨L, S, n_2, hX_2, mo_2, so_2, mq_2, sq_2, hI_2, fq_2, hn_2, hen_2, hel_2, hP, hD⟩ : ∃ (L1 : List Nat) (S1 : Sg) (n1 : Nat), EXT L S L1 S1 ∧ o_1 ∈ L1 ∧ S1 o_1 = (0, (u_2 0), n1) ∧ (u_2 0) ∈ L1 ∧ S1 (u_2 0) = (1, n1, o_1) ∧ IN jn cI cR cM g L1 S1 f_2 ∧ f_2 (u_2 0) = .inl (cI, n1, .inl (fun _ => 0)) ∧ n1 ≤ 144 ∧ n1 = k_2 * (jn * 2) ∧ (∀ a9, a9 ∈ L1 → a9 ∈ L0 ∨ a9 = o_1 ∨ a9 = (u_2 0)) ∧ va_P D vwCl (va_pl L1 f_2) H ∧ va_D A (va_pl L1 f_2) := by
    obtain ⟨S1, h1, h2, h3, h4⟩ := newRow hI ho_2 hq_2 hoq_2 hfL_2 fo_2 fq_2 hm_2 (cOK_0 (fun _ _ => rfl))
    exact ⟨_, S1, _, h1, by simp, h2, by simp, h3, h4, fq_2, hm_2, rfl, fun a9 h9 => by rw [eL0]; simpa [or_assoc] using h9, hP, hD⟩
  have su_5 := (hX_2 _ m_b).2.trans s_b
  have mu_5 := (hX_2 _ m_b).1
  have su_6 := (hX_2 _ m_b_p).2.trans s_b_p
  have mu_6 := (hX_2 _ m_b_p).1
  have hX := EXT_tr hX hX_2
  have hG := SG_ext hX_2 hG
  have hI := hI_2
  have ok_2 : cOK jn n_2 (fun _ => 0) := cOK_0 (fun _ _ => rfl)
  refine W.widen (k := 2) (n := 148) (Nat.le_of_ble_eq_true rfl) (Nat.le_of_ble_eq_true rfl) ?_
  have hnw := ho_2
  refine lv_astore_n (lv' := [(1, .ref o_1), (0, .ref b)]) hx hb dX5_copy_15 rfl hl (by decide) rfl (fun ls hl => ?_)
  refine lv_aload_n hx hb dX5_copy_16 rfl (lv_at hl 0 rfl) ?_
  refine lv_aload_n hx hb dX5_copy_17 rfl (lv_at hl 1 rfl) ?_
  have hz_7 : (0 : Int32).toInt = 0 := by decide
  refine call_p (va_runV (As := [.ref b]) (rest := []) ⟨hx, hb, hml, hown, hts⟩ (t_X5_takeFromm l D cI cR cM _ (v := w)  hj hG hI mo_2 so_2 fo_2 fq_2 mu_5 su_5 fb_3 fb_4 (by first | assumption | omega | (subst hj1; omega)) (fun q9 => hnw (by rw [← q9]; first | exact m_b | (rw [← eL0]; exact m_b))) (hRC) (by rw [hen_2]; subst hj1; omega)) (cwV 1 hts gX5_copy_X5_takeFrom rfl rfl rfl (by decide +kernel) ⟨Nat.le_of_ble_eq_true rfl, Nat.le_of_ble_eq_true rfl⟩) (pre_T hK hP hD mo_2 fo_2 rfl) rfl rfl hl.1 rfl (lv_room (Nat.le_of_ble_eq_true rfl)) dX5_copy_18 ⟨Nat.le_of_ble_eq_true rfl, Nat.le_of_ble_eq_true rfl⟩) hD hS hA (fun u_8 H locs hw hP hD hS => ?_)
  obtain ⟨r_8, f_8⟩ := u_8
  obtain ⟨hI, hF_8, hp_8, hfx_8, h01_8⟩ : IN jn cI cR cM g L S f_8 ∧ FR S [0, 1] f_2 f_8 ∧ (r_8.toInt = 1 ∧ RWf cI jn S f_8 o_1 b_l.toInt w) ∧ (FX S (fun a9 => a9 = o_1) [] f_2 f_8) ∧ (r_8.toInt = 0 ∨ r_8.toInt = 1) := hw
  have hP : va_P D vwCl (va_pl L f_8) H := hP
  have hD : va_D A (va_pl L f_8) := hD
  have hnL_8 : o_1 ∉ L0 := by rw [eL0]; exact hnw
  have hF := FRX_one hF hX hfx_8 hnL_8 (by rw [eL0, eS0]; exact hOW)
  refine lv_pop hx hb dX5_copy_21 rfl ?_
  refine lv_aload_n hx hb dX5_copy_22 rfl (lv_at hl 0 rfl) ?_
  exact g_aret (o_1, L, S, f_8) hx hb hr hlocks hS rfl (⟨EXT_c eL0 eS0 hX, hI, FRX_c eL0 eS0 hF, (⟨_, _, mo_2, so_2⟩), (by have h9 := hp_8.2; exact h9), (by rw [← eL0]; exact hnL_8), (fun a9 h9 q9 => by
    have q9 : (S a9).1 = 1 := q9
    show (S a9).2.2 ∈ L
    rcases hel_2 a9 h9 with h8 | h8 | h8
    · rw [(hX a9 h8).2] at q9 ⊢
      exact (hX _ (by have h7 := hOW a9 (by rw [← eL0]; exact h8); rw [← eS0, ← eL0] at h7; exact h7 q9)).1
    · rw [h8, so_2] at q9; cases q9
    · rw [h8, sq_2]; exact mo_2)⟩) hP hD hQ (Nat.le_of_ble_eq_true rfl) (Nat.le_of_ble_eq_true rfl) dX5_copy_23
