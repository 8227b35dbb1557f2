theorem ite_e {p q : Prop} {dp : Decidable p} {dq : Decidable q} {a b c d : Int} (h : p ↔ q) (ha : a = c) (hb : b = d) : @ite Int p dp a b = @ite Int q dq c d := by
  by_cases e : p
  · rw [if_pos e, if_pos (h.mp e), ha]
  · rw [if_neg e, if_neg (fun r => e (h.mpr r)), hb]
/-- a row without some of its throws -/
noncomputable def drW (w : Int → Int) (D : Int → Prop) : Int → Int := fun j => if j % 2 = 0 then (@ite Int (D j) (Classical.propDecidable _) (@ite Int (D (j + 1)) (Classical.propDecidable _) 0 (w (j + 1))) (w j)) else (@ite Int (D (j - 1) ∨ D j) (Classical.propDecidable _) 0 (w j))
/-- which throws go: bits of the numbers -/
def Dc (La : Int → Int) (cy : Int32) (j : Int) : Prop := 0 ≤ La j ∧ La j < 32 ∧ ∃ s : Int32, s.toInt = La j ∧ ((cy.toUInt32 >>> (s.toUInt32 &&& Int32.toUInt32 31)).toInt32 &&& 1).toInt = 1
theorem drW_c {w : Int → Int} {D E : Int → Prop} (h : ∀ j, D j ↔ E j) : drW w D = drW w E := by
  have : D = E := funext (fun j => propext (h j))
  subst this
  rfl
theorem dr_0 {w : Int → Int} {D : Int → Prop} (h : ∀ j, 0 ≤ j → D j) (j : Int) (j0 : 0 ≤ j) : drW w D j = 0 := by
  unfold drW
  by_cases e : j % 2 = 0
  · rw [if_pos e, if_pos (h j j0), if_pos (h (j + 1) (by omega))]
  · rw [if_neg e, if_pos (Or.inr (h j j0))]
/-- one cell more -/
theorem dr_s {w : Int → Int} {D : Int → Prop} {k : Int} (k0 : 0 ≤ k) (hD : ¬ D k) (hw : 0 ≤ w k) (hs : k % 2 = 1 → w k ≤ w (k - 1)) : ∃ v, insW (drW w (fun j => D j ∨ k ≤ j)) (k / 2) (w k) = some v ∧ ∀ j : Int, 0 ≤ j → v j = drW w (fun j => D j ∨ k + 1 ≤ j) j := by
  have other : ∀ j : Int, 0 ≤ j → j / 2 ≠ k / 2 → drW w (fun j => D j ∨ k ≤ j) j = drW w (fun j => D j ∨ k + 1 ≤ j) j := fun j j0 hj => by
    have c : ∀ i : Int, i / 2 = j / 2 → ((D i ∨ k ≤ i) ↔ (D i ∨ k + 1 ≤ i)) := fun i hi => by
      constructor
      · rintro (q | q)
        · exact Or.inl q
        · exact Or.inr (by omega)
      · rintro (q | q)
        · exact Or.inl q
        · exact Or.inr (by omega)
    unfold drW
    by_cases e : j % 2 = 0
    · rw [if_pos e, if_pos e]
      exact ite_e (c j rfl) (ite_e (c (j + 1) (by omega)) rfl rfl) rfl
    · rw [if_neg e, if_neg e]
      exact ite_e (or_congr (c (j - 1) (by omega)) (c j rfl)) rfl rfl
  rcases (show k % 2 = 0 ∨ k % 2 = 1 by omega) with q | q
  · have e2 : 2 * (k / 2) = k := by omega
    have z0 : drW w (fun j => D j ∨ k ≤ j) k = 0 := by unfold drW; rw [if_pos q, if_pos (Or.inr (Int.le_refl _)), if_pos (Or.inr (by omega))]
    have z1 : drW w (fun j => D j ∨ k ≤ j) (k + 1) = 0 := by unfold drW; rw [if_neg (by omega), if_pos (Or.inr (Or.inr (by omega)))]
    have t0 : drW w (fun j => D j ∨ k + 1 ≤ j) k = w k := by unfold drW; rw [if_pos q, if_neg (fun r => r.elim hD (fun r => by omega))]
    have t1 : drW w (fun j => D j ∨ k + 1 ≤ j) (k + 1) = 0 := by unfold drW; rw [if_neg (by omega), if_pos (Or.inr (Or.inr (Int.le_refl _)))]
    unfold insW
    rw [e2, z0, z1]
    by_cases e : w k = 0
    · refine ⟨_, if_pos e, fun j j0 => ?_⟩
      by_cases r : j / 2 = k / 2
      · rcases (show j = k ∨ j = k + 1 by omega) with r | r
        · rw [r, z0, t0, e]
        · rw [r, z1, t1]
      · exact other j j0 r
    · rw [if_neg e, if_neg (by decide), if_pos (by omega)]
      refine ⟨_, rfl, fun j j0 => ?_⟩
      by_cases r : j = k
      · rw [r, fu_s, t0]
      · rw [fu_n r]
        by_cases r2 : j = k + 1
        · rw [r2, fu_s, t1]
        · rw [fu_n r2]; exact other j j0 (by omega)
  · have e2 : 2 * (k / 2) = k - 1 := by omega
    have z1 : drW w (fun j => D j ∨ k ≤ j) k = 0 := by unfold drW; rw [if_neg (by omega), if_pos (Or.inr (Or.inr (Int.le_refl _)))]
    have c1 : (D (k - 1) ∨ k ≤ k - 1) ↔ D (k - 1) := ⟨fun r => r.elim id (fun r => by omega), Or.inl⟩
    have c2 : (D (k - 1) ∨ k + 1 ≤ k - 1) ↔ D (k - 1) := ⟨fun r => r.elim id (fun r => by omega), Or.inl⟩
    have c3 : (D k ∨ k + 1 ≤ k) ↔ False := ⟨fun r => r.elim hD (fun r => by omega), False.elim⟩
    have z0 : drW w (fun j => D j ∨ k ≤ j) (k - 1) = @ite Int (D (k - 1)) (Classical.propDecidable _) 0 (w (k - 1)) := by
      unfold drW
      rw [if_pos (by omega), show k - 1 + 1 = k by omega]
      exact ite_e c1 (if_pos (Or.inr (Int.le_refl _))) rfl
    have t0 : drW w (fun j => D j ∨ k + 1 ≤ j) (k - 1) = @ite Int (D (k - 1)) (Classical.propDecidable _) (w k) (w (k - 1)) := by
      unfold drW
      rw [if_pos (by omega), show k - 1 + 1 = k by omega]
      exact ite_e c2 (if_neg (fun r => c3.mp r)) rfl
    have t1 : drW w (fun j => D j ∨ k + 1 ≤ j) k = @ite Int (D (k - 1)) (Classical.propDecidable _) 0 (w k) := by
      unfold drW
      rw [if_neg (by omega)]
      exact ite_e ⟨fun r => r.elim c2.mp (fun r => (c3.mp r).elim), fun r => Or.inl (c2.mpr r)⟩ rfl rfl
    unfold insW
    rw [e2, show k - 1 + 1 = k by omega, z0, z1]
    have hs1 := hs q
    by_cases e : w k = 0
    · refine ⟨_, if_pos e, fun j j0 => ?_⟩
      by_cases r : j / 2 = k / 2
      · rcases (show j = k - 1 ∨ j = k by omega) with r | r
        · rw [r, z0, t0, e]
        · rw [r, z1, t1, e]
          by_cases q2 : D (k - 1)
          · rw [if_pos q2]
          · rw [if_neg q2]
      · exact other j j0 r
    · rw [if_neg e, if_neg (by decide)]
      by_cases q2 : D (k - 1)
      · rw [if_pos q2, if_pos (by omega)]
        refine ⟨_, rfl, fun j j0 => ?_⟩
        by_cases r : j = k - 1
        · rw [r, fu_s, t0, if_pos q2]
        · rw [fu_n r]
          by_cases r2 : j = k
          · rw [r2, fu_s, t1, if_pos q2]
          · rw [fu_n r2]; exact other j j0 (by omega)
      · rw [if_neg q2, if_neg (by omega)]
        refine ⟨_, rfl, fun j j0 => ?_⟩
        by_cases r2 : j = k
        · rw [r2, fu_s, t1, if_neg q2]
        · rw [fu_n r2]
          by_cases r : j = k - 1
          · rw [r, z0, t0, if_neg q2, if_neg q2]
          · exact other j j0 (by omega)
theorem dr_k {w : Int → Int} {D : Int → Prop} {k : Int} (hD : D k) : drW w (fun j => D j ∨ k ≤ j) = drW w (fun j => D j ∨ k + 1 ≤ j) := drW_c (fun j => by
  constructor
  · rintro (q | q)
    · exact Or.inl q
    · by_cases e : j = k
      · rw [e]; exact Or.inl hD
      · exact Or.inr (by omega)
  · rintro (q | q)
    · exact Or.inl q
    · exact Or.inr (by omega))
theorem dr_e {w : Int → Int} {D : Int → Prop} {N j : Int} (hN : N % 2 = 0) (j0 : 0 ≤ j) (j1 : j < N) : drW w (fun j => D j ∨ N ≤ j) j = drW w D j := by
  have c : ∀ i : Int, i < N → ((D i ∨ N ≤ i) ↔ D i) := fun i hi => ⟨fun r => r.elim id (fun r => by omega), Or.inl⟩
  unfold drW
  by_cases e : j % 2 = 0
  · rw [if_pos e, if_pos e]
    exact ite_e (c j j1) (ite_e (c (j + 1) (by omega)) rfl rfl) rfl
  · rw [if_neg e, if_neg e]
    exact ite_e (or_congr (c (j - 1) (by omega)) (c j j1)) rfl rfl
set_option maxRecDepth 100000 in
set_option maxHeartbeats 4000000 in
theorem t_X1_withoutm (l : Launch) (D : va_G) (cI cR cM : ClassId) (sz : Nat) {jn : Nat} {g : Nat → Nat} {L : List Nat} {S : Sg} {f : Nat → va_E} {kc : Int32} {b b_p b_n : Nat} {b_l : Int32} {b_c : Nat → Int32} {x : Int32} {w La : Int → Int} (hj : 1 ≤ jn ∧ jn ≤ 3) (hG : SG g L S) (hI : IN jn cI cR cM g L S f) (f_cat : f (g 15) = .inr (1, [.ref (g 35), .ref (g 27), .ref (g 36), .ref (g 37), .ref (g 38), .ref (g 39), .int kc, va_rf (some b)])) (m_b : b ∈ L) (s_b : S b = (0, b_p, b_n)) (f_b : f b = .inr (5, [.int (nI jn), .int (nI (2 * jn)), .ref b_p, .int b_l])) (f_b_p : f b_p = .inl (cI, b_n, .inl b_c)) (hj1 : jn = 1) (hRC : RC b_c w b_l.toInt) (hpos : 1 ≤ b_l.toInt ∧ b_l.toInt ≤ 24) (hsr : ∀ b9 : Int, 0 ≤ b9 → b9 < b_l.toInt → Srt w b9) (hcy : Arf cI f (g 36) La (2 * b_l.toInt)) (hOW : OWN L S) : Met l yX1_without wsX1_without ({ frames := 2, cells := 2, slots := 148, locals := 44 }) (P0 D cI cR cM [.ref (g 15), .int x] sz (va_pl L f)) (QG (S := Nat × List Nat × Sg × (Nat → va_E)) (fun u => some (.ref u.1)) (fun u => va_pl (u.2.1) (u.2.2.2)) (fun u => EXT L S u.2.1 u.2.2.1 ∧ IN jn cI cR cM g u.2.1 u.2.2.1 u.2.2.2 ∧ FRX L S [] f (u.2.2.2) ∧ (∃ p9 n9, isRow (u.2.1) (u.2.2.1) (u.1) p9 n9) ∧ (RWf cI jn (u.2.2.1) (u.2.2.2) (u.1) b_l.toInt (drW w (Dc La x))) ∧ ((u.1) ∉ L) ∧ (OWN (u.2.1) (u.2.2.1))) D (va_A (va_pl L f) sz)) 2 148 (va_A (va_pl L f) sz) := by
  refine go (cc := cX1_without) (maxL := 6) (ret := (some (.object "JugglingHall$Row"))) (by decide +kernel) rfl (Nat.le_of_ble_eq_true rfl) ?_
  intro p e s m below meth c ls args Q hQ hsz hx hb hr hml hts hown hlocks hnm hP hK hD hl
  subst hsz
  have hD := hD.self (sz := s.heap.size)
  generalize hAe : va_A (va_pl L f) s.heap.size = A at hD hQ
  have hA : ∀ q, s.heap.size ≤ q → A q := fun q h => by rw [← hAe]; exact Or.inr h
  have hS : va_S A s.heap s.heap [] := va_S.rf
  obtain ⟨L0, eL0⟩ : ∃ x, x = L := ⟨_, rfl⟩
  obtain ⟨S0, eS0⟩ : ∃ x, x = S := ⟨_, rfl⟩
  have hX : EXT L0 S0 L S := by rw [eL0, eS0]; exact EXT_rf
  have hF : FRX L0 S0 [] f f := FRX_rf
  have hl : lv_has ls 6 [(0, .ref (g 15)), (1, .int x)] := hl
  obtain ⟨v1_cat, v2_cat, v3_cat⟩ := iv_15 hI (gm_15 hG) (gs_15 hG) f_cat
  obtain ⟨v1_b, v2_b, v3_b, m_b_p, s_b_p⟩ := iv_0 hI m_b s_b f_b
  obtain ⟨w1_b, w2_b, w3_b, w4_b, w5_b⟩ := lenw hj v1_b v2_b v3_b
  have k_b := iv_1 hI m_b_p s_b_p f_b_p
  obtain ⟨c_1, fg_1⟩ := op_36 hI (gm_36 hG) (gs_36 hG)
  have hG0 := hG
  have f36_0 := fg_1
  have hLc := Arf_at hcy f36_0
  refine va_new (D := D) (ci := 5) (fs := [.int 0, .int 0, .null, .int 0]) (C := RX5) (T := TX5) (N := 4) hx hb hts (by decide +kernel) tyX5 tyX5_ok hown (hts (.classLink RX1 37 RX5) (by decide +kernel)) (hts (.instantiable RX5 4) (by decide +kernel)) (hts (.initialized RX5) (by decide +kernel)) hK.1 hP hD hS hA rfl (fun j hj => by rcases (show j = 0 ∨ j = 1 ∨ j = 2 ∨ j = 3 by omega) with rfl | rfl | rfl | rfl <;> rfl) (Nat.le_of_ble_eq_true rfl) (Nat.le_of_ble_eq_true rfl) dX1_without_0 (fun o_2 H hP hD hS => ?_)
  have hPo : va_P D vwCl ([(o_2, .inr (5, [.int 0, .int 0, .null, .int 0]))] ++ va_pl L f) H := swP hP
  have hDo : va_D A ([(o_2, .inr (5, [.int 0, .int 0, .null, .int 0]))] ++ va_pl L f) := swD hD
  have hP := tail_P hPo
  have hD := tail_D hDo
  refine W.widen (k := 1) (n := 4) (Nat.le_of_ble_eq_true rfl) (Nat.le_of_ble_eq_true rfl) ?_
  refine lv_dup hx hb dX1_without_3 rfl ?_
  refine lv_aload_n hx hb dX1_without_4 rfl (lv_at hl 0 rfl) ?_
  refine t_get (D := D) (L := L) (f := f) (ci := 1) (v := .ref b) (C := RX1) (T := TX1) (N := 8) hx hb hts (by decide +kernel) hown hK.1 hP (gm_15 hG) f_cat rfl 7 (by decide) (hts (.fieldLink RX1 60 "JugglingHall$Catches" "row" "LJugglingHall$Row;") (by decide +kernel)) (fun _ h9 => h9) rfl dX1_without_5 ?_
  refine t_getN (D := D) (L := L) (f := f) (ci := 5) (v := .int (nI jn)) (C := RX5) (T := TX5) (N := 4) (host := "JugglingHall") hx hb hts (by decide +kernel) hown hK.1 hP m_b f_b rfl 0 (by decide) (hK.nw (.fieldLinkNest RX1 92 "JugglingHall$Row" "jugglers" "I" "JugglingHall") (by decide +kernel) rfl) (fun _ h9 => h9) rfl dX1_without_8 ?_
  refine lv_aload_n hx hb dX1_without_11 rfl (lv_at hl 0 rfl) ?_
  refine t_get (D := D) (L := L) (f := f) (ci := 1) (v := .ref b) (C := RX1) (T := TX1) (N := 8) hx hb hts (by decide +kernel) hown hK.1 hP (gm_15 hG) f_cat rfl 7 (by decide) (hts (.fieldLink RX1 60 "JugglingHall$Catches" "row" "LJugglingHall$Row;") (by decide +kernel)) (fun _ h9 => h9) rfl dX1_without_12 ?_
  refine t_getN (D := D) (L := L) (f := f) (ci := 5) (v := .int b_l) (C := RX5) (T := TX5) (N := 4) (host := "JugglingHall") hx hb hts (by decide +kernel) hown hK.1 hP m_b f_b rfl 3 (by decide) (hK.nw (.fieldLinkNest RX1 95 "JugglingHall$Row" "length" "I" "JugglingHall") (by decide +kernel) rfl) (fun _ h9 => h9) rfl dX1_without_15 ?_
  obtain ⟨k_3, hk_3, ek_3⟩ := nI_ex (x := b_l) (N := 73) (by subst hj1; omega) (by decide)
  have ei_3 : b_l.toInt = (k_3 : Int) := by rw [ek_3, nI_toInt (by subst hj1; omega)]
  have hm_3 : k_3 * (jn * 2) ≤ 144 := by rcases j3 hj with h9 | h9 | h9 <;> subst h9 <;> omega
  refine lv_eqi (y := nI k_3) ek_3 ?_
  have hP1 := head_P hPo
  have hD1 := d_one o_2 (.inr (5, [.int 0, .int 0, .null, .int 0]))
  refine call_new (a := o_2) (eo := .inr (5, [.int 0, .int 0, .null, .int 0])) (L := L) (f := f) (va_runI (As := [.int (nI jn), .int (nI k_3)]) (rest := [.ref o_2]) ⟨hx, hb, hml, hown, hts⟩ (c_Row_init l D cI cR cM _ hj.1 hj.2 (cap := k_3) (by subst hj1; omega) hm_3 o_2) (cwI 2 hts ggX1_without_X5_init rfl rfl rfl (hts (.initialized RX5) (by decide +kernel)) (hts (.methodLink RX1 98 yX5_init) (by decide +kernel)) (hts (.instanceMethod yX5_init) (by decide +kernel)) rfl (by decide +kernel) ⟨Nat.le_of_ble_eq_true rfl, Nat.le_of_ble_eq_true rfl⟩) (pre_S hK hP1 hD1) rfl rfl hl.1 rfl (lv_room (Nat.le_of_ble_eq_true rfl)) dX1_without_18 ⟨Nat.le_of_ble_eq_true rfl, Nat.le_of_ble_eq_true rfl⟩) hPo hDo hS hA (fun u_3 H locs hw hP hD hS => ?_)
  have hP : va_P D vwCl ([(o_2, .inr (5, [.int (nI jn), .int (nI (2 * jn)), .ref (u_3 0), .int 0])), ((u_3 0), .inl (cI, k_3 * (jn * 2), .inl (fun _ => 0)))] ++ va_pl L f) H := by rw [Nat.mul_comm 2 jn]; exact hP
  have hD : va_D A ([(o_2, .inr (5, [.int (nI jn), .int (nI (2 * jn)), .ref (u_3 0), .int 0])), ((u_3 0), .inl (cI, k_3 * (jn * 2), .inl (fun _ => 0)))] ++ va_pl L f) := by rw [Nat.mul_comm 2 jn]; exact hD
  obtain ⟨f_3, fo_3, fq_3, hfL_3, ho_3, hq_3, hoq_3, hP, hD⟩ := absorb hP hD
  have fb_4 : f_3 (g 15) = .inr (1, [.ref (g 35), .ref (g 27), .ref (g 36), .ref (g 37), .ref (g 38), .ref (g 39), .int kc, va_rf (some b)]) := (hfL_3 _ (gm_15 hG)).trans f_cat
  have fb_5 : f_3 b = .inr (5, [.int (nI jn), .int (nI (2 * jn)), .ref b_p, .int b_l]) := (hfL_3 _ m_b).trans f_b
  have fb_6 : f_3 b_p = .inl (cI, b_n, .inl b_c) := (hfL_3 _ m_b_p).trans f_b_p
  have fb_7 : f_3 (g 36) = .inl (cI, 144, .inl c_1) := (hfL_3 _ (gm_36 hG)).trans fg_1
  have hF := FRX_trX (T1 := []) hF hX (fun b hb _ => hfL_3 b hb) (fun t ht => absurd ht (List.not_mem_nil))
  obtain ⟨L, S, n_3, hX_3, mo_3, so_3, mq_3, sq_3, hI_3, fq_3, hn_3, hen_3, hel_3, hP, hD⟩ : ∃ (L1 : List Nat) (S1 : Sg) (n1 : Nat), EXT L S L1 S1 ∧ o_2 ∈ L1 ∧ S1 o_2 = (0, (u_3 0), n1) ∧ (u_3 0) ∈ L1 ∧ S1 (u_3 0) = (1, n1, o_2) ∧ IN jn cI cR cM g L1 S1 f_3 ∧ f_3 (u_3 0) = .inl (cI, n1, .inl (fun _ => 0)) ∧ n1 ≤ 144 ∧ n1 = k_3 * (jn * 2) ∧ (∀ a9, a9 ∈ L1 → a9 ∈ L0 ∨ a9 = o_2 ∨ a9 = (u_3 0)) ∧ va_P D vwCl (va_pl L1 f_3) H ∧ va_D A (va_pl L1 f_3) := by
    obtain ⟨S1, h1, h2, h3, h4⟩ := newRow hI ho_3 hq_3 hoq_3 hfL_3 fo_3 fq_3 hm_3 (cOK_0 (fun _ _ => rfl))
    exact ⟨_, S1, _, h1, by simp, h2, by simp, h3, h4, fq_3, hm_3, rfl, fun a9 h9 => by rw [eL0]; simpa [or_assoc] using h9, hP, hD⟩
  have su_8 := (hX_3 _ m_b).2.trans s_b
  have mu_8 := (hX_3 _ m_b).1
  have su_9 := (hX_3 _ m_b_p).2.trans s_b_p
  have mu_9 := (hX_3 _ m_b_p).1
  have hX := EXT_tr hX hX_3
  have hG := SG_ext hX_3 hG
  have hI := hI_3
  have ok_3 : cOK jn n_3 (fun _ => 0) := cOK_0 (fun _ _ => rfl)
  refine W.widen (k := 2) (n := 148) (Nat.le_of_ble_eq_true rfl) (Nat.le_of_ble_eq_true rfl) ?_
  refine lv_astore_n (lv' := [(2, .ref o_2), (0, .ref (g 15)), (1, .int x)]) hx hb dX1_without_21 rfl hl (by decide) rfl (fun ls hl => ?_)
  have hnw := ho_3
  have hnL : o_2 ∉ L0 := by rw [eL0]; exact hnw
  refine lv_aload_n hx hb dX1_without_22 rfl (lv_at hl 0 rfl) ?_
  refine lv_aload_n hx hb dX1_without_23 rfl (lv_at hl 1 rfl) ?_
  refine t_get (D := D) (L := L) (f := f_3) (ci := 1) (v := .ref b) (C := RX1) (T := TX1) (N := 8) hx hb hts (by decide +kernel) hown hK.1 hP (gm_15 hG) fb_4 rfl 7 (by decide) (hts (.fieldLink RX1 60 "JugglingHall$Catches" "row" "LJugglingHall$Row;") (by decide +kernel)) (fun _ h9 => h9) rfl dX1_without_24 ?_
  refine t_getN (D := D) (L := L) (f := f_3) (ci := 5) (v := .int b_l) (C := RX5) (T := TX5) (N := 4) (host := "JugglingHall") hx hb hts (by decide +kernel) hown hK.1 hP mu_8 fb_5 rfl 3 (by decide) (hK.nw (.fieldLinkNest RX1 95 "JugglingHall$Row" "length" "I" "JugglingHall") (by decide +kernel) rfl) (fun _ h9 => h9) rfl dX1_without_27 ?_
  have hz_10 : (0 : Int32).toInt = 0 := by decide
  refine call_p (va_runV (As := [.int b_l]) (rest := []) ⟨hx, hb, hml, hown, hts⟩ (t_X5_resetm l D cI cR cM _   hj hG hI mo_3 so_3 fo_3 fq_3 (by first | assumption | omega | (subst hj1; omega)) (by rw [hen_3]; subst hj1; omega)) (cwV 1 hts gX1_without_X5_reset rfl rfl rfl (by decide +kernel) ⟨Nat.le_of_ble_eq_true rfl, Nat.le_of_ble_eq_true rfl⟩) (pre_T hK hP hD mo_3 fo_3 rfl) rfl rfl hl.1 rfl (lv_room (Nat.le_of_ble_eq_true rfl)) dX1_without_30 ⟨Nat.le_of_ble_eq_true rfl, Nat.le_of_ble_eq_true rfl⟩) hD hS hA (fun u_11 H locs hw hP hD hS => ?_)
  obtain ⟨f_11, e0_11⟩ : ∃ x, x = u_11 := ⟨_, rfl⟩
  subst e0_11
  obtain ⟨hI, hF_11, hp_11, hfx_11⟩ : IN jn cI cR cM g L S f_11 ∧ FR S [0, 1] f_3 f_11 ∧ (RWf cI jn S f_11 o_2 b_l.toInt (fun _ => 0)) ∧ (FX S (fun a9 => a9 = o_2) [] f_3 f_11) := hw
  have hP : va_P D vwCl (va_pl L f_11) H := hP
  have hD : va_D A (va_pl L f_11) := hD
  have hF := FRX_one hF hX hfx_11 hnL (by rw [eL0, eS0]; exact hOW)
  have fb_12 : f_11 (g 15) = .inr (1, [.ref (g 35), .ref (g 27), .ref (g 36), .ref (g 37), .ref (g 38), .ref (g 39), .int kc, va_rf (some b)]) := FR_at hF_11 (gs_15 hG) (show (15 : Nat) ∉ ([0, 1] : List Nat) by decide) fb_4
  have fb_13 : f_11 b = .inr (5, [.int (nI jn), .int (nI (2 * jn)), .ref b_p, .int b_l]) := (hfx_11 b (by rw [own_0 su_8]; exact fun (q9 : b = o_2) => hnL (by rw [← q9, eL0]; exact m_b)) (by rw [su_8]; exact (show (0 : Nat) ∉ ([] : List Nat) by decide))).trans fb_5
  have fb_14 : f_11 b_p = .inl (cI, b_n, .inl b_c) := (hfx_11 b_p (by rw [own_1 su_9]; exact fun (q9 : b = o_2) => hnL (by rw [← q9, eL0]; exact m_b)) (by rw [su_9]; exact (show (1 : Nat) ∉ ([] : List Nat) by decide))).trans fb_6
  have fb_15 : f_11 (g 36) = .inl (cI, 144, .inl c_1) := FR_at hF_11 (gs_36 hG) (show (36 : Nat) ∉ ([0, 1] : List Nat) by decide) fb_7
  refine lv_iconst (v := 0) hx hb dX1_without_33 (by decide) ?_
  refine lv_istore_n (lv' := [(3, .int 0), (2, .ref o_2), (0, .ref (g 15)), (1, .int x)]) hx hb dX1_without_34 rfl hl (by decide) rfl (fun ls hl => ?_)
  have loop35 : ∀ (ddloop35 : Nat) (ce : Int32) (f_16 : Nat → va_E) (H : Heap) (locs : List Loc) (ls : Array Slot), (200 - ce.toInt).toNat < ddloop35 → IN jn cI cR cM g L S f_16 → FRX L0 S0 [] f f_16 → (0 ≤ ce.toInt ∧ ce.toInt ≤ 2 * b_l.toInt) → (RWf cI jn S f_16 o_2 b_l.toInt (drW w (fun j => Dc La x j ∨ ce.toInt ≤ j))) → va_P D vwCl (va_pl L f_16) H → va_D A (va_pl L f_16) → va_S A s.heap H locs → lv_has ls 6 [(0, .ref (g 15)), (1, .int x), (2, .ref o_2), (3, .int ce)] → W p l e ({ frames := 2, cells := 2, slots := 148, locals := 44 }) s m args below meth c H locs (2) (148) Q (F0 m 35 ls []) := by
    intro ddloop35
    induction ddloop35 with
    | zero =>
      intro ce f_16 H locs ls hdd
      exact absurd hdd (Nat.not_lt_zero _)
    | succ ddloop35 ih35 =>
      intro ce f_16 H locs ls hdd hI hF hi hRW hP hD hS hl
      have fb_17 : f_16 (g 15) = .inr (1, [.ref (g 35), .ref (g 27), .ref (g 36), .ref (g 37), .ref (g 38), .ref (g 39), .int kc, va_rf (some b)]) := (hF _ (by rw [eL0]; exact (gm_15 hG0)) (by intro h9; cases h9)).trans f_cat
      have fb_18 : f_16 b = .inr (5, [.int (nI jn), .int (nI (2 * jn)), .ref b_p, .int b_l]) := (hF _ (by rw [eL0]; exact m_b) (by intro h9; cases h9)).trans f_b
      have fb_19 : f_16 b_p = .inl (cI, b_n, .inl b_c) := (hF _ (by rw [eL0]; exact m_b_p) (by intro h9; cases h9)).trans f_b_p
      have fb_20 : f_16 (g 36) = .inl (cI, 144, .inl c_1) := (hF _ (by rw [eL0]; exact gm_36 hG0) (by intro h9; cases h9)).trans f36_0
      have hk9 := hi
      refine lv_iload_n hx hb dX1_without_35 rfl (lv_at hl 3 rfl) ?_
      refine lv_aload_n hx hb dX1_without_36 rfl (lv_at hl 0 rfl) ?_
      refine t_get (D := D) (L := L) (f := f_16) (ci := 1) (v := .ref b) (C := RX1) (T := TX1) (N := 8) hx hb hts (by decide +kernel) hown hK.1 hP (gm_15 hG) fb_17 rfl 7 (by decide) (hts (.fieldLink RX1 60 "JugglingHall$Catches" "row" "LJugglingHall$Row;") (by decide +kernel)) (fun _ h9 => h9) rfl dX1_without_37 ?_
      refine roP (va_runV (As := []) (rest := [.int ce]) ⟨hx, hb, hml, hown, hts⟩ (t_X5_cellCountm l D cI cR cM _   hj hG hI mu_8 su_8 fb_18 fb_19 (by first | assumption | omega | (subst hj1; omega))) (cwV 0 hts gX1_without_X5_cellCount rfl rfl rfl (by decide +kernel) ⟨Nat.le_of_ble_eq_true rfl, Nat.le_of_ble_eq_true rfl⟩) (pre_T hK hP hD mu_8 fb_18 rfl) rfl rfl hl.1 rfl (lv_room (Nat.le_of_ble_eq_true rfl)) dX1_without_40 ⟨Nat.le_of_ble_eq_true rfl, Nat.le_of_ble_eq_true rfl⟩) hS hA hP (fun r_21 H locs hw hP hS => ?_)
      have h_21 : (r_21.toInt = 2 * b_l.toInt) := hw
      refine a_icmp_ge (u := ce.toInt) (v := r_21.toInt) (tgt := 131) hx hb dX1_without_43 (by decide) (rfl) (rfl) (fun c_22 => ?_) (fun c_22 => ?_)
      · refine lv_aload_n hx hb dX1_without_131 rfl (lv_at hl 2 rfl) ?_
        exact g_aret (o_2, L, S, f_16) hx hb hr hlocks hS rfl (⟨EXT_c eL0 eS0 hX, hI, FRX_c eL0 eS0 hF, (⟨_, _, mo_3, so_3⟩), (by
          refine RWf_c hRW (fun i9 i0 i1 => ?_)
          rw [show ce.toInt = 2 * b_l.toInt by omega]
          exact dr_e (by subst hj1; omega) i0 i1), (by rw [← eL0]; exact hnL), (fun a9 h9 q9 => by
          have q9 : (S a9).1 = 1 := q9
          show (S a9).2.2 ∈ L
          rcases hel_3 a9 h9 with h8 | h8 | h8
          · rw [(hX a9 h8).2] at q9 ⊢
            exact (hX _ (by have h7 := hOW a9 (by rw [← eL0]; exact h8); rw [← eS0, ← eL0] at h7; exact h7 q9)).1
          · rw [h8, so_3] at q9; cases q9
          · rw [h8, sq_3]; exact mo_3)⟩) hP hD hQ (Nat.le_of_ble_eq_true rfl) (Nat.le_of_ble_eq_true rfl) dX1_without_132
      · refine lv_aload_n hx hb dX1_without_46 rfl (lv_at hl 0 rfl) ?_
        refine t_get (D := D) (L := L) (f := f_16) (ci := 1) (v := .ref (g 36)) (C := RX1) (T := TX1) (N := 8) hx hb hts (by decide +kernel) hown hK.1 hP (gm_15 hG) fb_17 rfl 2 (by decide) (hts (.fieldLink RX1 18 "JugglingHall$Catches" "cycleAt" "[I") (by decide +kernel)) (fun _ h9 => h9) rfl dX1_without_47 ?_
        refine lv_iload_n hx hb dX1_without_50 rfl (lv_at hl 3 rfl) ?_
        refine t_iald (L := L) (f := f_16) (y := c_1) (u := ce.toInt) hx hb hK.1 hP (gm_36 hG) 0 fb_20 rfl dX1_without_51 (rfl) (by subst hj1; omega) (fun z_23 q_23 e_23 => ?_)
        have hv51 : z_23.toInt = La ce.toInt := by rw [q_23]; exact hLc _ (by subst hj1; omega) (by subst hj1; omega)
        refine lv_istore (lv' := [(4, .int z_23), (0, .ref (g 15)), (1, .int x), (2, .ref o_2), (3, .int ce)]) hx hb dX1_without_52 hl (by decide) rfl (fun ls hl => ?_)
        refine lv_iload hx hb dX1_without_54 (lv_at hl 0 rfl) ?_
        refine a_if_lt (u := z_23.toInt) (tgt := 80) hx hb dX1_without_56 (by decide) (rfl) (fun c_24 => ?_) (fun c_24 => ?_)
        · refine lv_iconst (v := 0) hx hb dX1_without_80 (by decide) ?_
          refine lv_istore (lv' := [(5, .int 0), (4, .int z_23), (0, .ref (g 15)), (1, .int x), (2, .ref o_2), (3, .int ce)]) hx hb dX1_without_81 hl (by decide) rfl (fun ls hl => ?_)
          have hD9 : ¬ Dc La x ce.toInt := fun q9 => by have h8 := q9.1; have h7 := q9.2.1; omega
          refine lv_iload hx hb dX1_without_83 (lv_at hl 0 rfl) ?_
          refine a_if_ne (u := 0) (tgt := 125) hx hb dX1_without_85 (by decide) (by decide) (fun c_25 => absurd c_25 (by subst hj1; omega)) (fun c_25 => ?_)
          refine lv_aload_n hx hb dX1_without_88 rfl (lv_at hl 4 rfl) ?_
          refine lv_aload_n hx hb dX1_without_89 rfl (lv_at hl 2 rfl) ?_
          refine t_get (D := D) (L := L) (f := f_16) (ci := 1) (v := .ref b) (C := RX1) (T := TX1) (N := 8) hx hb hts (by decide +kernel) hown hK.1 hP (gm_15 hG) fb_17 rfl 7 (by decide) (hts (.fieldLink RX1 60 "JugglingHall$Catches" "row" "LJugglingHall$Row;") (by decide +kernel)) (fun _ h9 => h9) rfl dX1_without_90 ?_
          refine lv_iload_n hx hb dX1_without_93 rfl (lv_at hl 5 rfl) ?_
          refine roP (va_runV (As := [.int ce]) (rest := [.ref o_2]) ⟨hx, hb, hml, hown, hts⟩ (t_X5_beatOfm l D cI cR cM _   hj hG hI mu_8 su_8 fb_18 fb_19 (by first | assumption | omega | (subst hj1; omega)) (by subst hj1; omega)) (cwV 1 hts gX1_without_X5_beatOf rfl rfl rfl (by decide +kernel) ⟨Nat.le_of_ble_eq_true rfl, Nat.le_of_ble_eq_true rfl⟩) (pre_T hK hP hD mu_8 fb_18 rfl) rfl rfl hl.1 rfl (lv_room (Nat.le_of_ble_eq_true rfl)) dX1_without_94 ⟨Nat.le_of_ble_eq_true rfl, Nat.le_of_ble_eq_true rfl⟩) hS hA hP (fun r_26 H locs hw hP hS => ?_)
          have h_26 : (r_26.toInt = ce.toInt / 2) := hw
          refine lv_aload_n hx hb dX1_without_97 rfl (lv_at hl 2 rfl) ?_
          refine t_get (D := D) (L := L) (f := f_16) (ci := 1) (v := .ref b) (C := RX1) (T := TX1) (N := 8) hx hb hts (by decide +kernel) hown hK.1 hP (gm_15 hG) fb_17 rfl 7 (by decide) (hts (.fieldLink RX1 60 "JugglingHall$Catches" "row" "LJugglingHall$Row;") (by decide +kernel)) (fun _ h9 => h9) rfl dX1_without_98 ?_
          refine lv_iload_n hx hb dX1_without_101 rfl (lv_at hl 5 rfl) ?_
          refine roP (va_runV (As := [.int ce]) (rest := [.int r_26, .ref o_2]) ⟨hx, hb, hml, hown, hts⟩ (t_X5_jugglerOfm l D cI cR cM _   hj hG hI mu_8 su_8 fb_18 fb_19 (by first | assumption | omega | (subst hj1; omega)) (by subst hj1; omega)) (cwV 1 hts gX1_without_X5_jugglerOf rfl rfl rfl (by decide +kernel) ⟨Nat.le_of_ble_eq_true rfl, Nat.le_of_ble_eq_true rfl⟩) (pre_T hK hP hD mu_8 fb_18 rfl) rfl rfl hl.1 rfl (lv_room (Nat.le_of_ble_eq_true rfl)) dX1_without_102 ⟨Nat.le_of_ble_eq_true rfl, Nat.le_of_ble_eq_true rfl⟩) hS hA hP (fun r_27 H locs hw hP hS => ?_)
          have h_27 : (r_27.toInt = 0) := hw
          refine lv_aload_n hx hb dX1_without_105 rfl (lv_at hl 2 rfl) ?_
          refine t_get (D := D) (L := L) (f := f_16) (ci := 1) (v := .ref b) (C := RX1) (T := TX1) (N := 8) hx hb hts (by decide +kernel) hown hK.1 hP (gm_15 hG) fb_17 rfl 7 (by decide) (hts (.fieldLink RX1 60 "JugglingHall$Catches" "row" "LJugglingHall$Row;") (by decide +kernel)) (fun _ h9 => h9) rfl dX1_without_106 ?_
          refine lv_iload_n hx hb dX1_without_109 rfl (lv_at hl 5 rfl) ?_
          refine roP (va_runV (As := [.int ce]) (rest := [.int r_27, .int r_26, .ref o_2]) ⟨hx, hb, hml, hown, hts⟩ (t_X5_heightm l D cI cR cM _ (w := w)  hj hG hI mu_8 su_8 fb_18 fb_19 (by first | assumption | omega | (subst hj1; omega)) (by subst hj1; omega) (hRC)) (cwV 1 hts gX1_without_X5_height rfl rfl rfl (by decide +kernel) ⟨Nat.le_of_ble_eq_true rfl, Nat.le_of_ble_eq_true rfl⟩) (pre_T hK hP hD mu_8 fb_18 rfl) rfl rfl hl.1 rfl (lv_room (Nat.le_of_ble_eq_true rfl)) dX1_without_110 ⟨Nat.le_of_ble_eq_true rfl, Nat.le_of_ble_eq_true rfl⟩) hS hA hP (fun r_28 H locs hw hP hS => ?_)
          obtain ⟨h_28, hb_28⟩ : (r_28.toInt = w ce.toInt) ∧ (0 ≤ r_28.toInt ∧ r_28.toInt ≤ 9) := hw
          refine lv_aload_n hx hb dX1_without_113 rfl (lv_at hl 2 rfl) ?_
          refine t_get (D := D) (L := L) (f := f_16) (ci := 1) (v := .ref b) (C := RX1) (T := TX1) (N := 8) hx hb hts (by decide +kernel) hown hK.1 hP (gm_15 hG) fb_17 rfl 7 (by decide) (hts (.fieldLink RX1 60 "JugglingHall$Catches" "row" "LJugglingHall$Row;") (by decide +kernel)) (fun _ h9 => h9) rfl dX1_without_114 ?_
          refine lv_iload_n hx hb dX1_without_117 rfl (lv_at hl 5 rfl) ?_
          refine roP (va_runV (As := [.int ce]) (rest := [.int r_28, .int r_27, .int r_26, .ref o_2]) ⟨hx, hb, hml, hown, hts⟩ (t_X5_targetm l D cI cR cM _ (w := w)  hj hG hI mu_8 su_8 fb_18 fb_19 (by first | assumption | omega | (subst hj1; omega)) (by subst hj1; omega) (hRC)) (cwV 1 hts gX1_without_X5_target rfl rfl rfl (by decide +kernel) ⟨Nat.le_of_ble_eq_true rfl, Nat.le_of_ble_eq_true rfl⟩) (pre_T hK hP hD mu_8 fb_18 rfl) rfl rfl hl.1 rfl (lv_room (Nat.le_of_ble_eq_true rfl)) dX1_without_118 ⟨Nat.le_of_ble_eq_true rfl, Nat.le_of_ble_eq_true rfl⟩) hS hA hP (fun r_29 H locs hw hP hS => ?_)
          obtain ⟨h_29, hb_29⟩ : (w ce.toInt ≠ 0 → r_29.toInt = 0) ∧ (0 ≤ r_29.toInt ∧ r_29.toInt ≤ 3) := hw
          obtain ⟨len_30, fg_30, v1_30, v2_30, v3_30, mp_30, sp_30⟩ := op_0 hI mo_3 so_3
          obtain ⟨w1_30, w2_30, w3_30, w4_30, w5_30⟩ := lenw hj v1_30 v2_30 v3_30
          obtain ⟨c_31, fg_31, iv0_31⟩ := op_1 hI mq_3 sq_3
          obtain ⟨hl_32, hc_32⟩ := RWf_at hRW so_3 fg_30 fg_31
          refine call_p (va_runV (As := [.int r_26, .int r_27, .int r_28, .int r_29]) (rest := []) ⟨hx, hb, hml, hown, hts⟩ (t_X5_putm l D cI cR cM _ (w := (drW w (fun j => Dc La x j ∨ ce.toInt ≤ j)))  hj hG hI mo_3 so_3 fg_30 fg_31 (by first | assumption | omega | (subst hj1; omega)) (by subst hj1; omega) (by
            by_cases q9 : w ce.toInt = 0
            · exact Or.inl (by subst hj1; omega)
            · exact Or.inr ⟨by omega, h_29 q9⟩) (by first | assumption | omega | (subst hj1; omega)) (by rw [hl_32]; exact hc_32)) (cwV 4 hts gX1_without_X5_put rfl rfl rfl (by decide +kernel) ⟨Nat.le_of_ble_eq_true rfl, Nat.le_of_ble_eq_true rfl⟩) (pre_T hK hP hD mo_3 fg_30 rfl) rfl rfl hl.1 rfl (lv_room (Nat.le_of_ble_eq_true rfl)) dX1_without_121 ⟨Nat.le_of_ble_eq_true rfl, Nat.le_of_ble_eq_true rfl⟩) hD hS hA (fun u_33 H locs hw hP hD hS => ?_)
          obtain ⟨r_33, f_33⟩ := u_33
          obtain ⟨hI, hF_33, hp_33, hfx_33, h01_33⟩ : IN jn cI cR cM g L S f_33 ∧ FR S [1] f_16 f_33 ∧ ((r_33.toInt = 1 ∧ ∃ v9, insW (drW w (fun j => Dc La x j ∨ ce.toInt ≤ j)) r_26.toInt r_28.toInt = some v9 ∧ RWf cI jn S f_33 o_2 len_30.toInt v9) ∨ (r_33.toInt = 0 ∧ insW (drW w (fun j => Dc La x j ∨ ce.toInt ≤ j)) r_26.toInt r_28.toInt = none)) ∧ (FX S (fun a9 => a9 = o_2) [] f_16 f_33) ∧ (r_33.toInt = 0 ∨ r_33.toInt = 1) := hw
          have hP : va_P D vwCl (va_pl L f_33) H := hP
          have hD : va_D A (va_pl L f_33) := hD
          have hF := FRX_one hF hX hfx_33 hnL (by rw [eL0, eS0]; exact hOW)
          have fb_34 : f_33 (g 15) = .inr (1, [.ref (g 35), .ref (g 27), .ref (g 36), .ref (g 37), .ref (g 38), .ref (g 39), .int kc, va_rf (some b)]) := FR_at hF_33 (gs_15 hG) (show (15 : Nat) ∉ ([1] : List Nat) by decide) fb_17
          have fb_35 : f_33 b = .inr (5, [.int (nI jn), .int (nI (2 * jn)), .ref b_p, .int b_l]) := FR_at hF_33 su_8 (show (0 : Nat) ∉ ([1] : List Nat) by decide) fb_18
          have fb_36 : f_33 b_p = .inl (cI, b_n, .inl b_c) := (hfx_33 b_p (by rw [own_1 su_9]; exact fun (q9 : b = o_2) => hnL (by rw [← q9, eL0]; exact m_b)) (by rw [su_9]; exact (show (1 : Nat) ∉ ([] : List Nat) by decide))).trans fb_19
          have fb_37 : f_33 (g 36) = .inl (cI, 144, .inl c_1) := FR_at hF_33 (gs_36 hG) (show (36 : Nat) ∉ ([1] : List Nat) by decide) fb_20
          have fb_38 : f_33 o_2 = .inr (5, [.int (nI jn), .int (nI (2 * jn)), .ref (u_3 0), .int len_30]) := FR_at hF_33 so_3 (show (0 : Nat) ∉ ([1] : List Nat) by decide) fg_30
          refine lv_pop hx hb dX1_without_124 rfl ?_
          obtain ⟨z_39, q_39, e_39⟩ := i_inc (a := ce.toInt) (1) (rfl) (by decide) (by subst hj1; omega) (by subst hj1; omega)
          refine lv_iinc (v := z_39) (lv' := [(3, .int z_39), (5, .int 0), (4, .int z_23), (0, .ref (g 15)), (1, .int x), (2, .ref o_2)]) hx hb dX1_without_125 hl (k := 5) rfl q_39 (by decide) rfl (fun ls hl => ?_)
          refine lv_goto (tgt := 35) hx hb dX1_without_128 (by decide) ?_
          refine W.widen (k := 2) (n := 148) (by subst hj1; omega) (by subst hj1; omega) ?_
          exact ih35 z_39 f_33 _ _ _ (by subst hj1; omega) hI hF (by first | assumption | omega | (subst hj1; omega)) (by
            obtain ⟨u9, h4, h5⟩ := dr_s (w := w) (k := ce.toInt) (D := Dc La x) (by subst hj1; omega) hD9 (RC_w hRC k_b (by subst hj1; omega) (i := ce.toInt) (by subst hj1; omega) (by subst hj1; omega)).1 (fun q9 => by
              have := hsr (ce.toInt / 2) (by subst hj1; omega) (by subst hj1; omega)
              unfold Srt at this
              rw [show 2 * (ce.toInt / 2) + 1 = ce.toInt by omega, show 2 * (ce.toInt / 2) = ce.toInt - 1 by omega] at this
              exact this.1)
            rw [h_26, h_28] at hp_33
            rcases hp_33 with ⟨h6, v9, h7, h8⟩ | ⟨h6, h7⟩
            · rw [h4] at h7
              cases h7
              rw [hl_32] at h8
              rw [show z_39.toInt = ce.toInt + 1 by omega]
              exact RWf_c h8 (fun i9 i0 i1 => h5 i9 i0)
            · rw [h4] at h7; cases h7) hP hD hS (lv_sub hl [3, 4, 5, 0] rfl)
        · refine lv_iload hx hb dX1_without_59 (lv_at hl 0 rfl) ?_
          refine lv_bipush (v := 32) hx hb dX1_without_61 (by decide) ?_
          refine a_icmp_ge (u := z_23.toInt) (v := 32) (tgt := 80) hx hb dX1_without_63 (by decide) (rfl) (by decide) (fun c_40 => ?_) (fun c_40 => ?_)
          · refine lv_iconst (v := 0) hx hb dX1_without_80 (by decide) ?_
            refine lv_istore (lv' := [(5, .int 0), (4, .int z_23), (0, .ref (g 15)), (1, .int x), (2, .ref o_2), (3, .int ce)]) hx hb dX1_without_81 hl (by decide) rfl (fun ls hl => ?_)
            have hD9 : ¬ Dc La x ce.toInt := fun q9 => by have h8 := q9.1; have h7 := q9.2.1; omega
            refine lv_iload hx hb dX1_without_83 (lv_at hl 0 rfl) ?_
            refine a_if_ne (u := 0) (tgt := 125) hx hb dX1_without_85 (by decide) (by decide) (fun c_41 => absurd c_41 (by subst hj1; omega)) (fun c_41 => ?_)
            refine lv_aload_n hx hb dX1_without_88 rfl (lv_at hl 4 rfl) ?_
            refine lv_aload_n hx hb dX1_without_89 rfl (lv_at hl 2 rfl) ?_
            refine t_get (D := D) (L := L) (f := f_16) (ci := 1) (v := .ref b) (C := RX1) (T := TX1) (N := 8) hx hb hts (by decide +kernel) hown hK.1 hP (gm_15 hG) fb_17 rfl 7 (by decide) (hts (.fieldLink RX1 60 "JugglingHall$Catches" "row" "LJugglingHall$Row;") (by decide +kernel)) (fun _ h9 => h9) rfl dX1_without_90 ?_
            refine lv_iload_n hx hb dX1_without_93 rfl (lv_at hl 5 rfl) ?_
            refine roP (va_runV (As := [.int ce]) (rest := [.ref o_2]) ⟨hx, hb, hml, hown, hts⟩ (t_X5_beatOfm l D cI cR cM _   hj hG hI mu_8 su_8 fb_18 fb_19 (by first | assumption | omega | (subst hj1; omega)) (by subst hj1; omega)) (cwV 1 hts gX1_without_X5_beatOf rfl rfl rfl (by decide +kernel) ⟨Nat.le_of_ble_eq_true rfl, Nat.le_of_ble_eq_true rfl⟩) (pre_T hK hP hD mu_8 fb_18 rfl) rfl rfl hl.1 rfl (lv_room (Nat.le_of_ble_eq_true rfl)) dX1_without_94 ⟨Nat.le_of_ble_eq_true rfl, Nat.le_of_ble_eq_true rfl⟩) hS hA hP (fun r_42 H locs hw hP hS => ?_)
            have h_42 : (r_42.toInt = ce.toInt / 2) := hw
            refine lv_aload_n hx hb dX1_without_97 rfl (lv_at hl 2 rfl) ?_
            refine t_get (D := D) (L := L) (f := f_16) (ci := 1) (v := .ref b) (C := RX1) (T := TX1) (N := 8) hx hb hts (by decide +kernel) hown hK.1 hP (gm_15 hG) fb_17 rfl 7 (by decide) (hts (.fieldLink RX1 60 "JugglingHall$Catches" "row" "LJugglingHall$Row;") (by decide +kernel)) (fun _ h9 => h9) rfl dX1_without_98 ?_
            refine lv_iload_n hx hb dX1_without_101 rfl (lv_at hl 5 rfl) ?_
            refine roP (va_runV (As := [.int ce]) (rest := [.int r_42, .ref o_2]) ⟨hx, hb, hml, hown, hts⟩ (t_X5_jugglerOfm l D cI cR cM _   hj hG hI mu_8 su_8 fb_18 fb_19 (by first | assumption | omega | (subst hj1; omega)) (by subst hj1; omega)) (cwV 1 hts gX1_without_X5_jugglerOf rfl rfl rfl (by decide +kernel) ⟨Nat.le_of_ble_eq_true rfl, Nat.le_of_ble_eq_true rfl⟩) (pre_T hK hP hD mu_8 fb_18 rfl) rfl rfl hl.1 rfl (lv_room (Nat.le_of_ble_eq_true rfl)) dX1_without_102 ⟨Nat.le_of_ble_eq_true rfl, Nat.le_of_ble_eq_true rfl⟩) hS hA hP (fun r_43 H locs hw hP hS => ?_)
            have h_43 : (r_43.toInt = 0) := hw
            refine lv_aload_n hx hb dX1_without_105 rfl (lv_at hl 2 rfl) ?_
            refine t_get (D := D) (L := L) (f := f_16) (ci := 1) (v := .ref b) (C := RX1) (T := TX1) (N := 8) hx hb hts (by decide +kernel) hown hK.1 hP (gm_15 hG) fb_17 rfl 7 (by decide) (hts (.fieldLink RX1 60 "JugglingHall$Catches" "row" "LJugglingHall$Row;") (by decide +kernel)) (fun _ h9 => h9) rfl dX1_without_106 ?_
            refine lv_iload_n hx hb dX1_without_109 rfl (lv_at hl 5 rfl) ?_
            refine roP (va_runV (As := [.int ce]) (rest := [.int r_43, .int r_42, .ref o_2]) ⟨hx, hb, hml, hown, hts⟩ (t_X5_heightm l D cI cR cM _ (w := w)  hj hG hI mu_8 su_8 fb_18 fb_19 (by first | assumption | omega | (subst hj1; omega)) (by subst hj1; omega) (hRC)) (cwV 1 hts gX1_without_X5_height rfl rfl rfl (by decide +kernel) ⟨Nat.le_of_ble_eq_true rfl, Nat.le_of_ble_eq_true rfl⟩) (pre_T hK hP hD mu_8 fb_18 rfl) rfl rfl hl.1 rfl (lv_room (Nat.le_of_ble_eq_true rfl)) dX1_without_110 ⟨Nat.le_of_ble_eq_true rfl, Nat.le_of_ble_eq_true rfl⟩) hS hA hP (fun r_44 H locs hw hP hS => ?_)
            obtain ⟨h_44, hb_44⟩ : (r_44.toInt = w ce.toInt) ∧ (0 ≤ r_44.toInt ∧ r_44.toInt ≤ 9) := hw
            refine lv_aload_n hx hb dX1_without_113 rfl (lv_at hl 2 rfl) ?_
            refine t_get (D := D) (L := L) (f := f_16) (ci := 1) (v := .ref b) (C := RX1) (T := TX1) (N := 8) hx hb hts (by decide +kernel) hown hK.1 hP (gm_15 hG) fb_17 rfl 7 (by decide) (hts (.fieldLink RX1 60 "JugglingHall$Catches" "row" "LJugglingHall$Row;") (by decide +kernel)) (fun _ h9 => h9) rfl dX1_without_114 ?_
            refine lv_iload_n hx hb dX1_without_117 rfl (lv_at hl 5 rfl) ?_
            refine roP (va_runV (As := [.int ce]) (rest := [.int r_44, .int r_43, .int r_42, .ref o_2]) ⟨hx, hb, hml, hown, hts⟩ (t_X5_targetm l D cI cR cM _ (w := w)  hj hG hI mu_8 su_8 fb_18 fb_19 (by first | assumption | omega | (subst hj1; omega)) (by subst hj1; omega) (hRC)) (cwV 1 hts gX1_without_X5_target rfl rfl rfl (by decide +kernel) ⟨Nat.le_of_ble_eq_true rfl, Nat.le_of_ble_eq_true rfl⟩) (pre_T hK hP hD mu_8 fb_18 rfl) rfl rfl hl.1 rfl (lv_room (Nat.le_of_ble_eq_true rfl)) dX1_without_118 ⟨Nat.le_of_ble_eq_true rfl, Nat.le_of_ble_eq_true rfl⟩) hS hA hP (fun r_45 H locs hw hP hS => ?_)
            obtain ⟨h_45, hb_45⟩ : (w ce.toInt ≠ 0 → r_45.toInt = 0) ∧ (0 ≤ r_45.toInt ∧ r_45.toInt ≤ 3) := hw
            obtain ⟨len_46, fg_46, v1_46, v2_46, v3_46, mp_46, sp_46⟩ := op_0 hI mo_3 so_3
            obtain ⟨w1_46, w2_46, w3_46, w4_46, w5_46⟩ := lenw hj v1_46 v2_46 v3_46
            obtain ⟨c_47, fg_47, iv0_47⟩ := op_1 hI mq_3 sq_3
            obtain ⟨hl_48, hc_48⟩ := RWf_at hRW so_3 fg_46 fg_47
            refine call_p (va_runV (As := [.int r_42, .int r_43, .int r_44, .int r_45]) (rest := []) ⟨hx, hb, hml, hown, hts⟩ (t_X5_putm l D cI cR cM _ (w := (drW w (fun j => Dc La x j ∨ ce.toInt ≤ j)))  hj hG hI mo_3 so_3 fg_46 fg_47 (by first | assumption | omega | (subst hj1; omega)) (by subst hj1; omega) (by
              by_cases q9 : w ce.toInt = 0
              · exact Or.inl (by subst hj1; omega)
              · exact Or.inr ⟨by omega, h_45 q9⟩) (by first | assumption | omega | (subst hj1; omega)) (by rw [hl_48]; exact hc_48)) (cwV 4 hts gX1_without_X5_put rfl rfl rfl (by decide +kernel) ⟨Nat.le_of_ble_eq_true rfl, Nat.le_of_ble_eq_true rfl⟩) (pre_T hK hP hD mo_3 fg_46 rfl) rfl rfl hl.1 rfl (lv_room (Nat.le_of_ble_eq_true rfl)) dX1_without_121 ⟨Nat.le_of_ble_eq_true rfl, Nat.le_of_ble_eq_true rfl⟩) hD hS hA (fun u_49 H locs hw hP hD hS => ?_)
            obtain ⟨r_49, f_49⟩ := u_49
            obtain ⟨hI, hF_49, hp_49, hfx_49, h01_49⟩ : IN jn cI cR cM g L S f_49 ∧ FR S [1] f_16 f_49 ∧ ((r_49.toInt = 1 ∧ ∃ v9, insW (drW w (fun j => Dc La x j ∨ ce.toInt ≤ j)) r_42.toInt r_44.toInt = some v9 ∧ RWf cI jn S f_49 o_2 len_46.toInt v9) ∨ (r_49.toInt = 0 ∧ insW (drW w (fun j => Dc La x j ∨ ce.toInt ≤ j)) r_42.toInt r_44.toInt = none)) ∧ (FX S (fun a9 => a9 = o_2) [] f_16 f_49) ∧ (r_49.toInt = 0 ∨ r_49.toInt = 1) := hw
            have hP : va_P D vwCl (va_pl L f_49) H := hP
            have hD : va_D A (va_pl L f_49) := hD
            have hF := FRX_one hF hX hfx_49 hnL (by rw [eL0, eS0]; exact hOW)
            have fb_50 : f_49 (g 15) = .inr (1, [.ref (g 35), .ref (g 27), .ref (g 36), .ref (g 37), .ref (g 38), .ref (g 39), .int kc, va_rf (some b)]) := FR_at hF_49 (gs_15 hG) (show (15 : Nat) ∉ ([1] : List Nat) by decide) fb_17
            have fb_51 : f_49 b = .inr (5, [.int (nI jn), .int (nI (2 * jn)), .ref b_p, .int b_l]) := FR_at hF_49 su_8 (show (0 : Nat) ∉ ([1] : List Nat) by decide) fb_18
            have fb_52 : f_49 b_p = .inl (cI, b_n, .inl b_c) := (hfx_49 b_p (by rw [own_1 su_9]; exact fun (q9 : b = o_2) => hnL (by rw [← q9, eL0]; exact m_b)) (by rw [su_9]; exact (show (1 : Nat) ∉ ([] : List Nat) by decide))).trans fb_19
            have fb_53 : f_49 (g 36) = .inl (cI, 144, .inl c_1) := FR_at hF_49 (gs_36 hG) (show (36 : Nat) ∉ ([1] : List Nat) by decide) fb_20
            have fb_54 : f_49 o_2 = .inr (5, [.int (nI jn), .int (nI (2 * jn)), .ref (u_3 0), .int len_46]) := FR_at hF_49 so_3 (show (0 : Nat) ∉ ([1] : List Nat) by decide) fg_46
            refine lv_pop hx hb dX1_without_124 rfl ?_
            obtain ⟨z_55, q_55, e_55⟩ := i_inc (a := ce.toInt) (1) (rfl) (by decide) (by subst hj1; omega) (by subst hj1; omega)
            refine lv_iinc (v := z_55) (lv' := [(3, .int z_55), (5, .int 0), (4, .int z_23), (0, .ref (g 15)), (1, .int x), (2, .ref o_2)]) hx hb dX1_without_125 hl (k := 5) rfl q_55 (by decide) rfl (fun ls hl => ?_)
            refine lv_goto (tgt := 35) hx hb dX1_without_128 (by decide) ?_
            refine W.widen (k := 2) (n := 148) (by subst hj1; omega) (by subst hj1; omega) ?_
            exact ih35 z_55 f_49 _ _ _ (by subst hj1; omega) hI hF (by first | assumption | omega | (subst hj1; omega)) (by
              obtain ⟨u9, h4, h5⟩ := dr_s (w := w) (k := ce.toInt) (D := Dc La x) (by subst hj1; omega) hD9 (RC_w hRC k_b (by subst hj1; omega) (i := ce.toInt) (by subst hj1; omega) (by subst hj1; omega)).1 (fun q9 => by
                have := hsr (ce.toInt / 2) (by subst hj1; omega) (by subst hj1; omega)
                unfold Srt at this
                rw [show 2 * (ce.toInt / 2) + 1 = ce.toInt by omega, show 2 * (ce.toInt / 2) = ce.toInt - 1 by omega] at this
                exact this.1)
              rw [h_42, h_44] at hp_49
              rcases hp_49 with ⟨h6, v9, h7, h8⟩ | ⟨h6, h7⟩
              · rw [h4] at h7
                cases h7
                rw [hl_48] at h8
                rw [show z_55.toInt = ce.toInt + 1 by omega]
                exact RWf_c h8 (fun i9 i0 i1 => h5 i9 i0)
              · rw [h4] at h7; cases h7) hP hD hS (lv_sub hl [3, 4, 5, 0] rfl)
          · refine lv_iload_n hx hb dX1_without_66 rfl (lv_at hl 2 rfl) ?_
            refine lv_iload hx hb dX1_without_67 (lv_at hl 0 rfl) ?_
            refine lv_iushr hx hb dX1_without_69 rfl ?_
            refine lv_topi (fun z_56 q_56 => ?_)
            refine lv_iconst (v := 1) hx hb dX1_without_70 (by decide) ?_
            refine lv_iand hx hb dX1_without_71 ?_
            refine lv_topi (fun z_57 q_57 => ?_)
            refine lv_iconst (v := 1) hx hb dX1_without_72 (by decide) ?_
            refine a_icmp_ne (u := z_57.toInt) (v := 1) (tgt := 80) hx hb dX1_without_73 (by decide) (rfl) (by decide) (fun c_58 => ?_) (fun c_58 => ?_)
            · refine lv_iconst (v := 0) hx hb dX1_without_80 (by decide) ?_
              refine lv_istore (lv' := [(5, .int 0), (4, .int z_23), (0, .ref (g 15)), (1, .int x), (2, .ref o_2), (3, .int ce)]) hx hb dX1_without_81 hl (by decide) rfl (fun ls hl => ?_)
              have hD9 : ¬ Dc La x ce.toInt := fun q9 => by
                obtain ⟨h8, h7, s9, h6, h5⟩ := q9
                have h4 : s9 = z_23 := Int32.toInt_inj.mp (by subst hj1; omega)
                rw [h4, ← q_56, ← q_57] at h5
                omega
              refine lv_iload hx hb dX1_without_83 (lv_at hl 0 rfl) ?_
              refine a_if_ne (u := 0) (tgt := 125) hx hb dX1_without_85 (by decide) (by decide) (fun c_59 => absurd c_59 (by subst hj1; omega)) (fun c_59 => ?_)
              refine lv_aload_n hx hb dX1_without_88 rfl (lv_at hl 4 rfl) ?_
              refine lv_aload_n hx hb dX1_without_89 rfl (lv_at hl 2 rfl) ?_
              refine t_get (D := D) (L := L) (f := f_16) (ci := 1) (v := .ref b) (C := RX1) (T := TX1) (N := 8) hx hb hts (by decide +kernel) hown hK.1 hP (gm_15 hG) fb_17 rfl 7 (by decide) (hts (.fieldLink RX1 60 "JugglingHall$Catches" "row" "LJugglingHall$Row;") (by decide +kernel)) (fun _ h9 => h9) rfl dX1_without_90 ?_
              refine lv_iload_n hx hb dX1_without_93 rfl (lv_at hl 5 rfl) ?_
              refine roP (va_runV (As := [.int ce]) (rest := [.ref o_2]) ⟨hx, hb, hml, hown, hts⟩ (t_X5_beatOfm l D cI cR cM _   hj hG hI mu_8 su_8 fb_18 fb_19 (by first | assumption | omega | (subst hj1; omega)) (by subst hj1; omega)) (cwV 1 hts gX1_without_X5_beatOf rfl rfl rfl (by decide +kernel) ⟨Nat.le_of_ble_eq_true rfl, Nat.le_of_ble_eq_true rfl⟩) (pre_T hK hP hD mu_8 fb_18 rfl) rfl rfl hl.1 rfl (lv_room (Nat.le_of_ble_eq_true rfl)) dX1_without_94 ⟨Nat.le_of_ble_eq_true rfl, Nat.le_of_ble_eq_true rfl⟩) hS hA hP (fun r_60 H locs hw hP hS => ?_)
              have h_60 : (r_60.toInt = ce.toInt / 2) := hw
              refine lv_aload_n hx hb dX1_without_97 rfl (lv_at hl 2 rfl) ?_
              refine t_get (D := D) (L := L) (f := f_16) (ci := 1) (v := .ref b) (C := RX1) (T := TX1) (N := 8) hx hb hts (by decide +kernel) hown hK.1 hP (gm_15 hG) fb_17 rfl 7 (by decide) (hts (.fieldLink RX1 60 "JugglingHall$Catches" "row" "LJugglingHall$Row;") (by decide +kernel)) (fun _ h9 => h9) rfl dX1_without_98 ?_
              refine lv_iload_n hx hb dX1_without_101 rfl (lv_at hl 5 rfl) ?_
              refine roP (va_runV (As := [.int ce]) (rest := [.int r_60, .ref o_2]) ⟨hx, hb, hml, hown, hts⟩ (t_X5_jugglerOfm l D cI cR cM _   hj hG hI mu_8 su_8 fb_18 fb_19 (by first | assumption | omega | (subst hj1; omega)) (by subst hj1; omega)) (cwV 1 hts gX1_without_X5_jugglerOf rfl rfl rfl (by decide +kernel) ⟨Nat.le_of_ble_eq_true rfl, Nat.le_of_ble_eq_true rfl⟩) (pre_T hK hP hD mu_8 fb_18 rfl) rfl rfl hl.1 rfl (lv_room (Nat.le_of_ble_eq_true rfl)) dX1_without_102 ⟨Nat.le_of_ble_eq_true rfl, Nat.le_of_ble_eq_true rfl⟩) hS hA hP (fun r_61 H locs hw hP hS => ?_)
              have h_61 : (r_61.toInt = 0) := hw
              refine lv_aload_n hx hb dX1_without_105 rfl (lv_at hl 2 rfl) ?_
              refine t_get (D := D) (L := L) (f := f_16) (ci := 1) (v := .ref b) (C := RX1) (T := TX1) (N := 8) hx hb hts (by decide +kernel) hown hK.1 hP (gm_15 hG) fb_17 rfl 7 (by decide) (hts (.fieldLink RX1 60 "JugglingHall$Catches" "row" "LJugglingHall$Row;") (by decide +kernel)) (fun _ h9 => h9) rfl dX1_without_106 ?_
              refine lv_iload_n hx hb dX1_without_109 rfl (lv_at hl 5 rfl) ?_
              refine roP (va_runV (As := [.int ce]) (rest := [.int r_61, .int r_60, .ref o_2]) ⟨hx, hb, hml, hown, hts⟩ (t_X5_heightm l D cI cR cM _ (w := w)  hj hG hI mu_8 su_8 fb_18 fb_19 (by first | assumption | omega | (subst hj1; omega)) (by subst hj1; omega) (hRC)) (cwV 1 hts gX1_without_X5_height rfl rfl rfl (by decide +kernel) ⟨Nat.le_of_ble_eq_true rfl, Nat.le_of_ble_eq_true rfl⟩) (pre_T hK hP hD mu_8 fb_18 rfl) rfl rfl hl.1 rfl (lv_room (Nat.le_of_ble_eq_true rfl)) dX1_without_110 ⟨Nat.le_of_ble_eq_true rfl, Nat.le_of_ble_eq_true rfl⟩) hS hA hP (fun r_62 H locs hw hP hS => ?_)
              obtain ⟨h_62, hb_62⟩ : (r_62.toInt = w ce.toInt) ∧ (0 ≤ r_62.toInt ∧ r_62.toInt ≤ 9) := hw
              refine lv_aload_n hx hb dX1_without_113 rfl (lv_at hl 2 rfl) ?_
              refine t_get (D := D) (L := L) (f := f_16) (ci := 1) (v := .ref b) (C := RX1) (T := TX1) (N := 8) hx hb hts (by decide +kernel) hown hK.1 hP (gm_15 hG) fb_17 rfl 7 (by decide) (hts (.fieldLink RX1 60 "JugglingHall$Catches" "row" "LJugglingHall$Row;") (by decide +kernel)) (fun _ h9 => h9) rfl dX1_without_114 ?_
              refine lv_iload_n hx hb dX1_without_117 rfl (lv_at hl 5 rfl) ?_
              refine roP (va_runV (As := [.int ce]) (rest := [.int r_62, .int r_61, .int r_60, .ref o_2]) ⟨hx, hb, hml, hown, hts⟩ (t_X5_targetm l D cI cR cM _ (w := w)  hj hG hI mu_8 su_8 fb_18 fb_19 (by first | assumption | omega | (subst hj1; omega)) (by subst hj1; omega) (hRC)) (cwV 1 hts gX1_without_X5_target rfl rfl rfl (by decide +kernel) ⟨Nat.le_of_ble_eq_true rfl, Nat.le_of_ble_eq_true rfl⟩) (pre_T hK hP hD mu_8 fb_18 rfl) rfl rfl hl.1 rfl (lv_room (Nat.le_of_ble_eq_true rfl)) dX1_without_118 ⟨Nat.le_of_ble_eq_true rfl, Nat.le_of_ble_eq_true rfl⟩) hS hA hP (fun r_63 H locs hw hP hS => ?_)
              obtain ⟨h_63, hb_63⟩ : (w ce.toInt ≠ 0 → r_63.toInt = 0) ∧ (0 ≤ r_63.toInt ∧ r_63.toInt ≤ 3) := hw
              obtain ⟨len_64, fg_64, v1_64, v2_64, v3_64, mp_64, sp_64⟩ := op_0 hI mo_3 so_3
              obtain ⟨w1_64, w2_64, w3_64, w4_64, w5_64⟩ := lenw hj v1_64 v2_64 v3_64
              obtain ⟨c_65, fg_65, iv0_65⟩ := op_1 hI mq_3 sq_3
              obtain ⟨hl_66, hc_66⟩ := RWf_at hRW so_3 fg_64 fg_65
              refine call_p (va_runV (As := [.int r_60, .int r_61, .int r_62, .int r_63]) (rest := []) ⟨hx, hb, hml, hown, hts⟩ (t_X5_putm l D cI cR cM _ (w := (drW w (fun j => Dc La x j ∨ ce.toInt ≤ j)))  hj hG hI mo_3 so_3 fg_64 fg_65 (by first | assumption | omega | (subst hj1; omega)) (by subst hj1; omega) (by
                by_cases q9 : w ce.toInt = 0
                · exact Or.inl (by subst hj1; omega)
                · exact Or.inr ⟨by omega, h_63 q9⟩) (by first | assumption | omega | (subst hj1; omega)) (by rw [hl_66]; exact hc_66)) (cwV 4 hts gX1_without_X5_put rfl rfl rfl (by decide +kernel) ⟨Nat.le_of_ble_eq_true rfl, Nat.le_of_ble_eq_true rfl⟩) (pre_T hK hP hD mo_3 fg_64 rfl) rfl rfl hl.1 rfl (lv_room (Nat.le_of_ble_eq_true rfl)) dX1_without_121 ⟨Nat.le_of_ble_eq_true rfl, Nat.le_of_ble_eq_true rfl⟩) hD hS hA (fun u_67 H locs hw hP hD hS => ?_)
              obtain ⟨r_67, f_67⟩ := u_67
              obtain ⟨hI, hF_67, hp_67, hfx_67, h01_67⟩ : IN jn cI cR cM g L S f_67 ∧ FR S [1] f_16 f_67 ∧ ((r_67.toInt = 1 ∧ ∃ v9, insW (drW w (fun j => Dc La x j ∨ ce.toInt ≤ j)) r_60.toInt r_62.toInt = some v9 ∧ RWf cI jn S f_67 o_2 len_64.toInt v9) ∨ (r_67.toInt = 0 ∧ insW (drW w (fun j => Dc La x j ∨ ce.toInt ≤ j)) r_60.toInt r_62.toInt = none)) ∧ (FX S (fun a9 => a9 = o_2) [] f_16 f_67) ∧ (r_67.toInt = 0 ∨ r_67.toInt = 1) := hw
              have hP : va_P D vwCl (va_pl L f_67) H := hP
              have hD : va_D A (va_pl L f_67) := hD
              have hF := FRX_one hF hX hfx_67 hnL (by rw [eL0, eS0]; exact hOW)
              have fb_68 : f_67 (g 15) = .inr (1, [.ref (g 35), .ref (g 27), .ref (g 36), .ref (g 37), .ref (g 38), .ref (g 39), .int kc, va_rf (some b)]) := FR_at hF_67 (gs_15 hG) (show (15 : Nat) ∉ ([1] : List Nat) by decide) fb_17
              have fb_69 : f_67 b = .inr (5, [.int (nI jn), .int (nI (2 * jn)), .ref b_p, .int b_l]) := FR_at hF_67 su_8 (show (0 : Nat) ∉ ([1] : List Nat) by decide) fb_18
              have fb_70 : f_67 b_p = .inl (cI, b_n, .inl b_c) := (hfx_67 b_p (by rw [own_1 su_9]; exact fun (q9 : b = o_2) => hnL (by rw [← q9, eL0]; exact m_b)) (by rw [su_9]; exact (show (1 : Nat) ∉ ([] : List Nat) by decide))).trans fb_19
              have fb_71 : f_67 (g 36) = .inl (cI, 144, .inl c_1) := FR_at hF_67 (gs_36 hG) (show (36 : Nat) ∉ ([1] : List Nat) by decide) fb_20
              have fb_72 : f_67 o_2 = .inr (5, [.int (nI jn), .int (nI (2 * jn)), .ref (u_3 0), .int len_64]) := FR_at hF_67 so_3 (show (0 : Nat) ∉ ([1] : List Nat) by decide) fg_64
              refine lv_pop hx hb dX1_without_124 rfl ?_
              obtain ⟨z_73, q_73, e_73⟩ := i_inc (a := ce.toInt) (1) (rfl) (by decide) (by subst hj1; omega) (by subst hj1; omega)
              refine lv_iinc (v := z_73) (lv' := [(3, .int z_73), (5, .int 0), (4, .int z_23), (0, .ref (g 15)), (1, .int x), (2, .ref o_2)]) hx hb dX1_without_125 hl (k := 5) rfl q_73 (by decide) rfl (fun ls hl => ?_)
              refine lv_goto (tgt := 35) hx hb dX1_without_128 (by decide) ?_
              refine W.widen (k := 2) (n := 148) (by subst hj1; omega) (by subst hj1; omega) ?_
              exact ih35 z_73 f_67 _ _ _ (by subst hj1; omega) hI hF (by first | assumption | omega | (subst hj1; omega)) (by
                obtain ⟨u9, h4, h5⟩ := dr_s (w := w) (k := ce.toInt) (D := Dc La x) (by subst hj1; omega) hD9 (RC_w hRC k_b (by subst hj1; omega) (i := ce.toInt) (by subst hj1; omega) (by subst hj1; omega)).1 (fun q9 => by
                  have := hsr (ce.toInt / 2) (by subst hj1; omega) (by subst hj1; omega)
                  unfold Srt at this
                  rw [show 2 * (ce.toInt / 2) + 1 = ce.toInt by omega, show 2 * (ce.toInt / 2) = ce.toInt - 1 by omega] at this
                  exact this.1)
                rw [h_60, h_62] at hp_67
                rcases hp_67 with ⟨h6, v9, h7, h8⟩ | ⟨h6, h7⟩
                · rw [h4] at h7
                  cases h7
                  rw [hl_66] at h8
                  rw [show z_73.toInt = ce.toInt + 1 by omega]
                  exact RWf_c h8 (fun i9 i0 i1 => h5 i9 i0)
                · rw [h4] at h7; cases h7) hP hD hS (lv_sub hl [3, 4, 5, 0] rfl)
            · refine lv_iconst (v := 1) hx hb dX1_without_76 (by decide) ?_
              refine lv_goto (tgt := 81) hx hb dX1_without_77 (by decide) ?_
              refine lv_istore (lv' := [(5, .int 1), (4, .int z_23), (0, .ref (g 15)), (1, .int x), (2, .ref o_2), (3, .int ce)]) hx hb dX1_without_81 hl (by decide) rfl (fun ls hl => ?_)
              have hD9 : Dc La x ce.toInt := ⟨by omega, by omega, z_23, hv51, by rw [← q_56, ← q_57]; omega⟩
              refine lv_iload hx hb dX1_without_83 (lv_at hl 0 rfl) ?_
              refine a_if_ne (u := 1) (tgt := 125) hx hb dX1_without_85 (by decide) (by decide) (fun c_74 => ?_) (fun c_74 => absurd c_74 (by subst hj1; omega))
              obtain ⟨z_75, q_75, e_75⟩ := i_inc (a := ce.toInt) (1) (rfl) (by decide) (by subst hj1; omega) (by subst hj1; omega)
              refine lv_iinc (v := z_75) (lv' := [(3, .int z_75), (5, .int 1), (4, .int z_23), (0, .ref (g 15)), (1, .int x), (2, .ref o_2)]) hx hb dX1_without_125 hl (k := 5) rfl q_75 (by decide) rfl (fun ls hl => ?_)
              refine lv_goto (tgt := 35) hx hb dX1_without_128 (by decide) ?_
              refine W.widen (k := 2) (n := 148) (by subst hj1; omega) (by subst hj1; omega) ?_
              exact ih35 z_75 f_16 _ _ _ (by subst hj1; omega) hI hF (by first | assumption | omega | (subst hj1; omega)) (by
                rw [show z_75.toInt = ce.toInt + 1 by omega, ← dr_k hD9]
                exact hRW) hP hD hS (lv_sub hl [3, 4, 5, 0] rfl)
  have hz_76 : (0 : Int32).toInt = 0 := by decide
  refine W.widen (k := 2) (n := 148) (by subst hj1; omega) (by subst hj1; omega) ?_
  exact loop35 ((200 - (0 : Int32).toInt).toNat + 1) (0 : Int32) f_11 _ _ _ (by subst hj1; omega) hI hF (by first | assumption | omega | (subst hj1; omega)) (RWf_c hp_11 (fun i9 i0 i1 => (dr_0 (fun j9 h9 => Or.inr (by rw [show (0 : Int32).toInt = 0 from rfl]; exact h9)) i9 i0).symm)) hP hD hS (lv_sub hl [2, 3, 1, 0] rfl)
