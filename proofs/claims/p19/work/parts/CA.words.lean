theorem ch_b : ∀ i, i < 8 → ∀ k, k < 11 → (((((bytS.getD i []).getD k 0) &&& 255).toUInt32 % 65536).toInt32).toInt = ((bytS.getD i []).getD k 0).toInt := by decide +kernel
theorem b_256 : ∀ n, n < 256 → ((nI n).toInt8.toInt32).toInt = if n < 128 then (n : Int) else (n : Int) - 256 := by decide +kernel
theorem c_256 : ∀ n, n < 256 → (((nI n).toUInt32 % 65536).toInt32).toInt = (n : Int) := by decide +kernel
theorem i2b_e {x z : Int32} (h : z = x.toInt8.toInt32) (h0 : 0 ≤ x.toInt) (h1 : x.toInt ≤ 255) : z.toInt = x.toInt ∨ z.toInt < 0 := by
  have e := nI_ofT h0
  have := b_256 x.toInt.toNat (by omega)
  rw [← e, ← h] at this
  by_cases q : x.toInt.toNat < 128
  · rw [if_pos q] at this; omega
  · rw [if_neg q] at this; omega
theorem i2b_s {x z : Int32} (h : z = x.toInt8.toInt32) (h0 : 0 ≤ x.toInt) (h1 : x.toInt ≤ 127) : z.toInt = x.toInt := by
  have e := nI_ofT h0
  have := b_256 x.toInt.toNat (by omega)
  rw [← e, ← h, if_pos (by omega)] at this
  omega
theorem i2c_e {x z : Int32} (h : z = (x.toUInt32 % 65536).toInt32) (h0 : 0 ≤ x.toInt) (h1 : x.toInt ≤ 255) : z.toInt = x.toInt := by
  have e := nI_ofT h0
  have := c_256 x.toInt.toNat (by omega)
  rw [← e, ← h] at this
  omega
theorem sg_b : ∀ k, k < 11 → (((bytS.getD 7 []).getD k 0).toInt = 61 ∨ ((bytS.getD 7 []).getD k 0).toInt = 59 ∨ ((bytS.getD 7 []).getD k 0).toInt = 42 ∨ ((bytS.getD 7 []).getD k 0).toInt = 40 ∨ ((bytS.getD 7 []).getD k 0).toInt = 41 ∨ ((bytS.getD 7 []).getD k 0).toInt = 91 ∨ ((bytS.getD 7 []).getD k 0).toInt = 93 ∨ ((bytS.getD 7 []).getD k 0).toInt = 60 ∨ ((bytS.getD 7 []).getD k 0).toInt = 62 ∨ ((bytS.getD 7 []).getD k 0).toInt = 124 ∨ ((bytS.getD 7 []).getD k 0).toInt = 63) := by decide +kernel
theorem sg_at : ((bytS.getD 7 []).getD 0 0).toInt = 61 ∧ ((bytS.getD 7 []).getD 1 0).toInt = 59 ∧ ((bytS.getD 7 []).getD 2 0).toInt = 42 ∧ ((bytS.getD 7 []).getD 3 0).toInt = 40 ∧ ((bytS.getD 7 []).getD 4 0).toInt = 41 ∧ ((bytS.getD 7 []).getD 5 0).toInt = 91 ∧ ((bytS.getD 7 []).getD 6 0).toInt = 93 ∧ ((bytS.getD 7 []).getD 7 0).toInt = 60 ∧ ((bytS.getD 7 []).getD 8 0).toInt = 62 ∧ ((bytS.getD 7 []).getD 9 0).toInt = 124 ∧ ((bytS.getD 7 []).getD 10 0).toInt = 63 := by decide +kernel
/-- one of the signs, by its place -/
theorem sg_iff {x : Int} (h : ∀ j : Int, 0 ≤ j → j < 11 → ((bytS.getD 7 []).getD j.toNat 0).toInt ≠ x) : ¬ isSg x := by
  obtain ⟨a0, a1, a2, a3, a4, a5, a6, a7, a8, a9, a10⟩ := sg_at
  have t0 := h 0 (by omega) (by omega)
  have t1 := h 1 (by omega) (by omega)
  have t2 := h 2 (by omega) (by omega)
  have t3 := h 3 (by omega) (by omega)
  have t4 := h 4 (by omega) (by omega)
  have t5 := h 5 (by omega) (by omega)
  have t6 := h 6 (by omega) (by omega)
  have t7 := h 7 (by omega) (by omega)
  have t8 := h 8 (by omega) (by omega)
  have t9 := h 9 (by omega) (by omega)
  have t10 := h 10 (by omega) (by omega)
  rw [show ((0 : Int)).toNat = 0 from rfl, a0] at t0
  rw [show ((1 : Int)).toNat = 1 from rfl, a1] at t1
  rw [show ((2 : Int)).toNat = 2 from rfl, a2] at t2
  rw [show ((3 : Int)).toNat = 3 from rfl, a3] at t3
  rw [show ((4 : Int)).toNat = 4 from rfl, a4] at t4
  rw [show ((5 : Int)).toNat = 5 from rfl, a5] at t5
  rw [show ((6 : Int)).toNat = 6 from rfl, a6] at t6
  rw [show ((7 : Int)).toNat = 7 from rfl, a7] at t7
  rw [show ((8 : Int)).toNat = 8 from rfl, a8] at t8
  rw [show ((9 : Int)).toNat = 9 from rfl, a9] at t9
  rw [show ((10 : Int)).toNat = 10 from rfl, a10] at t10
  unfold isSg
  omega
theorem sg_ix {j : Int} {z : Int32} {x : Int} (h0 : 0 ≤ j) (h1 : j < 11) (hz : z = ((bytS.getD 7 []).getD j.toNat 0)) (hx : z.toInt = x) : isSg x := by
  have := sg_b j.toNat (by omega)
  rw [← hz, hx] at this
  unfold isSg
  omega
/-- the tape as the class holds it -/
def TpC (cI : ClassId) (g : Nat → Nat) (f : Nat → va_E) (cb : Nat → Int32) (n : Int) : Prop := ∃ ln : Int32, f (g 11) = .inr (7, [.ref (g 30), .int ln]) ∧ f (g 30) = .inl (cI, 300, .inl cb) ∧ ln.toInt = n
theorem TpC_at {cI : ClassId} {g : Nat → Nat} {f : Nat → va_E} {cb c : Nat → Int32} {n : Int} {ln : Int32} (h : TpC cI g f cb n) (h1 : f (g 11) = .inr (7, [.ref (g 30), .int ln])) : ln.toInt = n := by
  obtain ⟨l9, a1, a2, a3⟩ := h
  rw [h1] at a1
  cases a1
  exact a3
theorem TpC_c {cI : ClassId} {g : Nat → Nat} {f : Nat → va_E} {cb c : Nat → Int32} {n : Int} (h : TpC cI g f cb n) (h2 : f (g 30) = .inl (cI, 300, .inl c)) : c = cb := by
  obtain ⟨l9, a1, a2, a3⟩ := h
  rw [h2] at a2
  cases a2
  rfl
theorem TpC_fr {cI : ClassId} {g : Nat → Nat} {L : List Nat} {S : Sg} {f f1 : Nat → va_E} {cb : Nat → Int32} {n : Int} {T : List Nat} (h : TpC cI g f cb n) (hG : SG g L S) (hF : FR S T f f1) (ht : 11 ∉ T ∧ 30 ∉ T) : TpC cI g f1 cb n := by
  obtain ⟨l9, a1, a2, a3⟩ := h
  exact ⟨l9, by rw [hF _ (by rw [gs_11 hG]; exact ht.1)]; exact a1, by rw [hF _ (by rw [gs_30 hG]; exact ht.2)]; exact a2, a3⟩
/-- a word spelt from q up to e -/
def SpW (B : Int → Int) (i : Nat) (q e : Int) : Prop := e - q = (lenS.getD i 0 : Nat) ∧ ∀ k : Nat, k < lenS.getD i 0 → B (q + (k : Int)) = ((bytS.getD i []).getD k 0).toInt
theorem spw_0 {B : Int → Int} {q e : Int} : SpW B 0 q e ↔ (e - q = 3 ∧ B q = 114 ∧ B (q + 1) = 111 ∧ B (q + 2) = 119) := by
  constructor
  · intro h
    refine ⟨h.1, ?_, ?_, ?_⟩
    · have h9 := h.2 0 (by decide)
      rw [show q + ((0 : Nat) : Int) = q by omega] at h9
      exact h9
    · have h9 := h.2 1 (by decide)
      rw [show q + ((1 : Nat) : Int) = q + 1 by omega] at h9
      exact h9
    · have h9 := h.2 2 (by decide)
      rw [show q + ((2 : Nat) : Int) = q + 2 by omega] at h9
      exact h9
  · intro h
    refine ⟨h.1, fun k hk => ?_⟩
    have hk : k < 3 := hk
    rcases (show k = 0 ∨ k = 1 ∨ k = 2 by omega) with e9 | e9 | e9
    · rw [e9, show q + ((0 : Nat) : Int) = q by omega]
      exact h.2.1
    · rw [e9, show q + ((1 : Nat) : Int) = q + 1 by omega]
      exact h.2.2.1
    · rw [e9, show q + ((2 : Nat) : Int) = q + 2 by omega]
      exact h.2.2.2
theorem spw_1 {B : Int → Int} {q e : Int} : SpW B 1 q e ↔ (e - q = 4 ∧ B q = 115 ∧ B (q + 1) = 101 ∧ B (q + 2) = 101 ∧ B (q + 3) = 110) := by
  constructor
  · intro h
    refine ⟨h.1, ?_, ?_, ?_, ?_⟩
    · have h9 := h.2 0 (by decide)
      rw [show q + ((0 : Nat) : Int) = q by omega] at h9
      exact h9
    · have h9 := h.2 1 (by decide)
      rw [show q + ((1 : Nat) : Int) = q + 1 by omega] at h9
      exact h9
    · have h9 := h.2 2 (by decide)
      rw [show q + ((2 : Nat) : Int) = q + 2 by omega] at h9
      exact h9
    · have h9 := h.2 3 (by decide)
      rw [show q + ((3 : Nat) : Int) = q + 3 by omega] at h9
      exact h9
  · intro h
    refine ⟨h.1, fun k hk => ?_⟩
    have hk : k < 4 := hk
    rcases (show k = 0 ∨ k = 1 ∨ k = 2 ∨ k = 3 by omega) with e9 | e9 | e9 | e9
    · rw [e9, show q + ((0 : Nat) : Int) = q by omega]
      exact h.2.1
    · rw [e9, show q + ((1 : Nat) : Int) = q + 1 by omega]
      exact h.2.2.1
    · rw [e9, show q + ((2 : Nat) : Int) = q + 2 by omega]
      exact h.2.2.2.1
    · rw [e9, show q + ((3 : Nat) : Int) = q + 3 by omega]
      exact h.2.2.2.2
theorem spw_2 {B : Int → Int} {q e : Int} : SpW B 2 q e ↔ (e - q = 4 ∧ B q = 98 ∧ B (q + 1) = 97 ∧ B (q + 2) = 99 ∧ B (q + 3) = 107) := by
  constructor
  · intro h
    refine ⟨h.1, ?_, ?_, ?_, ?_⟩
    · have h9 := h.2 0 (by decide)
      rw [show q + ((0 : Nat) : Int) = q by omega] at h9
      exact h9
    · have h9 := h.2 1 (by decide)
      rw [show q + ((1 : Nat) : Int) = q + 1 by omega] at h9
      exact h9
    · have h9 := h.2 2 (by decide)
      rw [show q + ((2 : Nat) : Int) = q + 2 by omega] at h9
      exact h9
    · have h9 := h.2 3 (by decide)
      rw [show q + ((3 : Nat) : Int) = q + 3 by omega] at h9
      exact h9
  · intro h
    refine ⟨h.1, fun k hk => ?_⟩
    have hk : k < 4 := hk
    rcases (show k = 0 ∨ k = 1 ∨ k = 2 ∨ k = 3 by omega) with e9 | e9 | e9 | e9
    · rw [e9, show q + ((0 : Nat) : Int) = q by omega]
      exact h.2.1
    · rw [e9, show q + ((1 : Nat) : Int) = q + 1 by omega]
      exact h.2.2.1
    · rw [e9, show q + ((2 : Nat) : Int) = q + 2 by omega]
      exact h.2.2.2.1
    · rw [e9, show q + ((3 : Nat) : Int) = q + 3 by omega]
      exact h.2.2.2.2
theorem spw_3 {B : Int → Int} {q e : Int} : SpW B 3 q e ↔ (e - q = 4 ∧ B q = 111 ∧ B (q + 1) = 118 ∧ B (q + 2) = 101 ∧ B (q + 3) = 114) := by
  constructor
  · intro h
    refine ⟨h.1, ?_, ?_, ?_, ?_⟩
    · have h9 := h.2 0 (by decide)
      rw [show q + ((0 : Nat) : Int) = q by omega] at h9
      exact h9
    · have h9 := h.2 1 (by decide)
      rw [show q + ((1 : Nat) : Int) = q + 1 by omega] at h9
      exact h9
    · have h9 := h.2 2 (by decide)
      rw [show q + ((2 : Nat) : Int) = q + 2 by omega] at h9
      exact h9
    · have h9 := h.2 3 (by decide)
      rw [show q + ((3 : Nat) : Int) = q + 3 by omega] at h9
      exact h9
  · intro h
    refine ⟨h.1, fun k hk => ?_⟩
    have hk : k < 4 := hk
    rcases (show k = 0 ∨ k = 1 ∨ k = 2 ∨ k = 3 by omega) with e9 | e9 | e9 | e9
    · rw [e9, show q + ((0 : Nat) : Int) = q by omega]
      exact h.2.1
    · rw [e9, show q + ((1 : Nat) : Int) = q + 1 by omega]
      exact h.2.2.1
    · rw [e9, show q + ((2 : Nat) : Int) = q + 2 by omega]
      exact h.2.2.2.1
    · rw [e9, show q + ((3 : Nat) : Int) = q + 3 by omega]
      exact h.2.2.2.2
theorem spw_4 {B : Int → Int} {q e : Int} : SpW B 4 q e ↔ (e - q = 4 ∧ B q = 100 ∧ B (q + 1) = 117 ∧ B (q + 2) = 97 ∧ B (q + 3) = 108) := by
  constructor
  · intro h
    refine ⟨h.1, ?_, ?_, ?_, ?_⟩
    · have h9 := h.2 0 (by decide)
      rw [show q + ((0 : Nat) : Int) = q by omega] at h9
      exact h9
    · have h9 := h.2 1 (by decide)
      rw [show q + ((1 : Nat) : Int) = q + 1 by omega] at h9
      exact h9
    · have h9 := h.2 2 (by decide)
      rw [show q + ((2 : Nat) : Int) = q + 2 by omega] at h9
      exact h9
    · have h9 := h.2 3 (by decide)
      rw [show q + ((3 : Nat) : Int) = q + 3 by omega] at h9
      exact h9
  · intro h
    refine ⟨h.1, fun k hk => ?_⟩
    have hk : k < 4 := hk
    rcases (show k = 0 ∨ k = 1 ∨ k = 2 ∨ k = 3 by omega) with e9 | e9 | e9 | e9
    · rw [e9, show q + ((0 : Nat) : Int) = q by omega]
      exact h.2.1
    · rw [e9, show q + ((1 : Nat) : Int) = q + 1 by omega]
      exact h.2.2.1
    · rw [e9, show q + ((2 : Nat) : Int) = q + 2 by omega]
      exact h.2.2.2.1
    · rw [e9, show q + ((3 : Nat) : Int) = q + 3 by omega]
      exact h.2.2.2.2
theorem spw_5 {B : Int → Int} {q e : Int} : SpW B 5 q e ↔ (e - q = 4 ∧ B q = 116 ∧ B (q + 1) = 117 ∧ B (q + 2) = 114 ∧ B (q + 3) = 110) := by
  constructor
  · intro h
    refine ⟨h.1, ?_, ?_, ?_, ?_⟩
    · have h9 := h.2 0 (by decide)
      rw [show q + ((0 : Nat) : Int) = q by omega] at h9
      exact h9
    · have h9 := h.2 1 (by decide)
      rw [show q + ((1 : Nat) : Int) = q + 1 by omega] at h9
      exact h9
    · have h9 := h.2 2 (by decide)
      rw [show q + ((2 : Nat) : Int) = q + 2 by omega] at h9
      exact h9
    · have h9 := h.2 3 (by decide)
      rw [show q + ((3 : Nat) : Int) = q + 3 by omega] at h9
      exact h9
  · intro h
    refine ⟨h.1, fun k hk => ?_⟩
    have hk : k < 4 := hk
    rcases (show k = 0 ∨ k = 1 ∨ k = 2 ∨ k = 3 by omega) with e9 | e9 | e9 | e9
    · rw [e9, show q + ((0 : Nat) : Int) = q by omega]
      exact h.2.1
    · rw [e9, show q + ((1 : Nat) : Int) = q + 1 by omega]
      exact h.2.2.1
    · rw [e9, show q + ((2 : Nat) : Int) = q + 2 by omega]
      exact h.2.2.2.1
    · rw [e9, show q + ((3 : Nat) : Int) = q + 3 by omega]
      exact h.2.2.2.2
theorem spw_6 {B : Int → Int} {q e : Int} : SpW B 6 q e ↔ (e - q = 1 ∧ B q = 112) := by
  constructor
  · intro h
    refine ⟨h.1, ?_⟩
    · have h9 := h.2 0 (by decide)
      rw [show q + ((0 : Nat) : Int) = q by omega] at h9
      exact h9
  · intro h
    refine ⟨h.1, fun k hk => ?_⟩
    have hk : k < 1 := hk
    rcases (show k = 0 by omega) with e9
    · rw [e9, show q + ((0 : Nat) : Int) = q by omega]
      exact h.2
set_option maxRecDepth 100000 in
set_option maxHeartbeats 4000000 in
theorem t_J1_charAtm (l : Launch) (D : va_G) (cI cR cM : ClassId) (sz : Nat) {x : Int32} {i : Nat} {adK adV : Nat → Nat} {B0 : Nat}  (hi8 : i < 8) (h0 : 0 ≤ x.toInt ∧ x.toInt < (lenS.getD i 0 : Nat)) : Met l yJ1_charAt_3b067 wsJ1_charAt_3b067 ({ frames := 2, cells := 0, slots := 0, locals := 43 }) (P0S D cI cR cM [.ref (adV i), .int x] sz [] adK adV B0) (QP (fun r => (narrow .char (.int r) = .int r) ∧ (r.toInt = ((bytS.getD i []).getD x.toInt.toNat 0).toInt)) sz) 0 0 (va_A [] sz) := by
  refine goS (cc := cJ1_charAt_3b067) (maxL := 2) (ret := (some .char)) (by decide +kernel) rfl (Nat.le_of_ble_eq_true rfl) ?_
  intro p e s m below meth c ls args Q hQ hsz hx hb hr hml hts hown hlocks hnm hP hK hD hl hST
  subst hsz
  have hS : va_S (va_A [] s.heap.size) s.heap s.heap [] := va_S.rf
  have hA : ∀ q, s.heap.size ≤ q → va_A [] s.heap.size q := fun q h => Or.inr h
  have hAB : ∀ q, va_A [] s.heap.size q → B0 ≤ q := fun q h => by
    rcases h with ⟨k, e9, h⟩ | h
    · simp at h
    · exact Nat.le_trans hST.1 h
  have hV := hST.2.1.narrow hAB
  have hZ9 := hST.2.2.2.1.narrow hAB
  have hQ9 := hST.2.2.2.2.narrow hAB
  have hl : lv_has ls 2 [(0, .ref (adV i)), (1, .int x)] := hl
  refine lv_iload_n hx hb dJ1_charAt_3b067_0 rfl (lv_at hl 1 rfl) ?_
  refine lv_aload_n hx hb dJ1_charAt_3b067_1 rfl (lv_at hl 0 rfl) ?_
  refine va_tlen hx hb (hV.1 i hi8).2.2.2 hS (v := nI (lenS.getD i 0)) rfl dJ1_charAt_3b067_2 ?_
  refine lv_topi (fun z_1 q_1 => ?_)
  have e_1 : z_1.toInt = (lenS.getD i 0 : Nat) ∧ lenS.getD i 0 ≤ 11 := lnS hi8 q_1
  refine ro (va_runS (As := [.int x, .int z_1]) (rest := []) ⟨hx, hb, hml, hown, hts⟩ (t_J0_checkIndex_df160 l D cI cR cM _     (by first | assumption | omega)) (va_cwS 2 hts gJ1_charAt_3b067_J0_checkIndex_df160 rfl rfl rfl (by decide +kernel) ⟨Nat.le_of_ble_eq_true rfl, Nat.le_of_ble_eq_true rfl⟩) (pre_SS hK hST hS hAB va_P_nil (va_D_nil (A := fun _ => True))) rfl rfl hl.1 rfl (lv_room (Nat.le_of_ble_eq_true rfl)) dJ1_charAt_3b067_3 ⟨Nat.le_of_ble_eq_true rfl, Nat.le_of_ble_eq_true rfl⟩) hS hA hP (fun H locs hP hS => ?_)
  refine lv_aload_n hx hb dJ1_charAt_3b067_6 rfl (lv_at hl 0 rfl) ?_
  refine lv_iload_n hx hb dJ1_charAt_3b067_7 rfl (lv_at hl 1 rfl) ?_
  refine va_tb hx hb (hV.1 i hi8).2.2.2 hS (i_in (a := x.toInt) (rfl) (by omega) (by omega)) rfl dJ1_charAt_3b067_8 ?_
  refine lv_topi (fun z_3 q_3 => ?_)
  refine lv_sipush (v := 255) hx hb dJ1_charAt_3b067_9 (by decide) ?_
  refine lv_iand hx hb dJ1_charAt_3b067_12 ?_
  refine lv_topi (fun z_4 q_4 => ?_)
  refine lv_i2c hx hb dJ1_charAt_3b067_13 rfl ?_
  refine lv_topi (fun z_5 q_5 => ?_)
  exact rp_nret hx hb hr (by rw [q_5]; exact pk_nc _) hlocks hS (⟨show narrow .char (.int z_5) = .int z_5 from (by rw [q_5]; exact pk_nc _), show z_5.toInt = ((bytS.getD i []).getD x.toInt.toNat 0).toInt from (by
    have h11 : lenS.getD i 0 ≤ 11 := (show ∀ i, i < 8 → lenS.getD i 0 ≤ 11 by decide +kernel) i hi8
    rw [q_5, q_4, q_3]
    exact ch_b i hi8 x.toInt.toNat (by omega))⟩) hQ dJ1_charAt_3b067_14
set_option maxRecDepth 100000 in
set_option maxHeartbeats 4000000 in
theorem t_J0_charAtm (l : Launch) (D : va_G) (cI cR cM : ClassId) (sz : Nat) {x : Int32} {i : Nat} {adK adV : Nat → Nat} {B0 : Nat}  (hi8 : i < 8) (h0 : 0 ≤ x.toInt ∧ x.toInt < (lenS.getD i 0 : Nat)) : Met l yJ0_charAt_5068e wsJ0_charAt_5068e ({ frames := 3, cells := 0, slots := 0, locals := 64 }) (P0S D cI cR cM [.ref (adK i), .int x] sz [] adK adV B0) (QP (fun r => (narrow .char (.int r) = .int r) ∧ (r.toInt = ((bytS.getD i []).getD x.toInt.toNat 0).toInt)) sz) 0 0 (va_A [] sz) := by
  refine goS (cc := cJ0_charAt_5068e) (maxL := 2) (ret := (some .char)) (by decide +kernel) rfl (Nat.le_of_ble_eq_true rfl) ?_
  intro p e s m below meth c ls args Q hQ hsz hx hb hr hml hts hown hlocks hnm hP hK hD hl hST
  subst hsz
  have hS : va_S (va_A [] s.heap.size) s.heap s.heap [] := va_S.rf
  have hA : ∀ q, s.heap.size ≤ q → va_A [] s.heap.size q := fun q h => Or.inr h
  have hAB : ∀ q, va_A [] s.heap.size q → B0 ≤ q := fun q h => by
    rcases h with ⟨k, e9, h⟩ | h
    · simp at h
    · exact Nat.le_trans hST.1 h
  have hV := hST.2.1.narrow hAB
  have hZ9 := hST.2.2.2.1.narrow hAB
  have hQ9 := hST.2.2.2.2.narrow hAB
  have hl : lv_has ls 2 [(0, .ref (adK i)), (1, .int x)] := hl
  refine lv_aload_n hx hb dJ0_charAt_5068e_0 rfl (lv_at hl 0 rfl) ?_
  refine roP (va_runV (As := []) (rest := []) ⟨hx, hb, hml, hown, hts⟩ (t_J0_isLatin1_aae02 l D cI cR cM _  (i := i)   (by first | assumption | omega)) (cwV 0 hts gJ0_charAt_5068e_J0_isLatin1_aae02 rfl rfl rfl (by decide +kernel) ⟨Nat.le_of_ble_eq_true rfl, Nat.le_of_ble_eq_true rfl⟩) (pre_SV hK hST hS hAB hV hi8) rfl rfl hl.1 rfl (lv_room (Nat.le_of_ble_eq_true rfl)) dJ0_charAt_5068e_1 ⟨Nat.le_of_ble_eq_true rfl, Nat.le_of_ble_eq_true rfl⟩) hS hA hP (fun r_1 H locs hw hP hS => ?_)
  obtain ⟨h_1, h01_1⟩ : (r_1.toInt = 1) ∧ (r_1.toInt = 0 ∨ r_1.toInt = 1) := hw
  refine a_if_eq (u := r_1.toInt) (tgt := 16) hx hb dJ0_charAt_5068e_4 (by decide) (rfl) (fun c_2 => absurd c_2 (by omega)) (fun c_2 => ?_)
  refine lv_aload_n hx hb dJ0_charAt_5068e_7 rfl (lv_at hl 0 rfl) ?_
  refine vk_getf hx hb (hV.1 i hi8).2.2.1 hS hown (hts (.fieldLink RJ0 9 "java/lang/String" "value" "[B") (by decide +kernel)) (fun _ h9 => h9) dJ0_charAt_5068e_8 ?_
  refine lv_iload_n hx hb dJ0_charAt_5068e_11 rfl (lv_at hl 1 rfl) ?_
  refine roP (va_runS (As := [.ref (adV i), .int x]) (rest := []) ⟨hx, hb, hml, hown, hts⟩ (t_J1_charAtm l D cI cR cM _  (i := i)   (by first | assumption | omega) (by first | assumption | omega)) (va_cwS 2 hts gJ0_charAt_5068e_J1_charAt_3b067 rfl rfl rfl (by decide +kernel) ⟨Nat.le_of_ble_eq_true rfl, Nat.le_of_ble_eq_true rfl⟩) (pre_SS hK hST hS hAB va_P_nil (va_D_nil (A := fun _ => True))) rfl rfl hl.1 rfl (lv_room (Nat.le_of_ble_eq_true rfl)) dJ0_charAt_5068e_12 ⟨Nat.le_of_ble_eq_true rfl, Nat.le_of_ble_eq_true rfl⟩) hS hA hP (fun r_3 H locs hw hP hS => ?_)
  obtain ⟨hn_3, he_3⟩ : (narrow .char (.int r_3) = .int r_3) ∧ (r_3.toInt = ((bytS.getD i []).getD x.toInt.toNat 0).toInt) := hw
  exact rp_nret hx hb hr (hn_3) hlocks hS (⟨show narrow .char (.int r_3) = .int r_3 from (by first | assumption | omega), show r_3.toInt = ((bytS.getD i []).getD x.toInt.toNat 0).toInt from (by first | assumption | omega)⟩) hQ dJ0_charAt_5068e_15
set_option maxRecDepth 100000 in
set_option maxHeartbeats 4000000 in
theorem t_J1_canEncodem (l : Launch) (D : va_G) (cI cR cM : ClassId) (sz : Nat) {x : Int32}  (hx0 : 0 ≤ x.toInt ∧ x.toInt ≤ 255) : Met l yJ1_canEncode_9a6ad wsJ1_canEncode_9a6ad ({ frames := 0, cells := 0, slots := 0, locals := 0 }) (P0 D cI cR cM [.int x] sz []) (QP (fun r => (r.toInt = 1) ∧ (r.toInt = 0 ∨ r.toInt = 1)) sz) 0 0 (va_A [] sz) := by
  refine go (cc := cJ1_canEncode_9a6ad) (maxL := 1) (ret := (some .boolean)) (by decide +kernel) rfl (Nat.le_of_ble_eq_true rfl) ?_
  intro p e s m below meth c ls args Q hQ hsz hx hb hr hml hts hown hlocks hnm hP hK hD hl
  subst hsz
  have hS : va_S (va_A [] s.heap.size) s.heap s.heap [] := va_S.rf
  have hA : ∀ q, s.heap.size ≤ q → va_A [] s.heap.size q := fun q h => Or.inr h
  have hl : lv_has ls 1 [(0, .int x)] := hl
  refine lv_iload_n hx hb dJ1_canEncode_9a6ad_0 rfl (lv_at hl 0 rfl) ?_
  refine a_if_lt (u := x.toInt) (tgt := 15) hx hb dJ1_canEncode_9a6ad_1 (by decide) (rfl) (fun c_1 => ?_) (fun c_1 => ?_)
  · refine lv_iconst (v := 0) hx hb dJ1_canEncode_9a6ad_15 (by decide) ?_
    have hz_2 : (0 : Int32).toInt = 0 := by decide
    exact rp_zret hx hb hr hlocks hS (by first | exact Or.inl rfl | exact Or.inr rfl) (⟨show (0 : Int32).toInt = 1 from (by first | assumption | omega), show (0 : Int32).toInt = 0 ∨ (0 : Int32).toInt = 1 from (by first | assumption | omega)⟩) hQ dJ1_canEncode_9a6ad_16
  · refine lv_iload_n hx hb dJ1_canEncode_9a6ad_4 rfl (lv_at hl 0 rfl) ?_
    refine lv_sipush (v := 255) hx hb dJ1_canEncode_9a6ad_5 (by decide) ?_
    refine a_icmp_gt (u := x.toInt) (v := 255) (tgt := 15) hx hb dJ1_canEncode_9a6ad_8 (by decide) (rfl) (by decide) (fun c_3 => ?_) (fun c_3 => ?_)
    · refine lv_iconst (v := 0) hx hb dJ1_canEncode_9a6ad_15 (by decide) ?_
      have hz_4 : (0 : Int32).toInt = 0 := by decide
      exact rp_zret hx hb hr hlocks hS (by first | exact Or.inl rfl | exact Or.inr rfl) (⟨show (0 : Int32).toInt = 1 from (by first | assumption | omega), show (0 : Int32).toInt = 0 ∨ (0 : Int32).toInt = 1 from (by first | assumption | omega)⟩) hQ dJ1_canEncode_9a6ad_16
    · refine lv_iconst (v := 1) hx hb dJ1_canEncode_9a6ad_11 (by decide) ?_
      refine lv_goto (tgt := 16) hx hb dJ1_canEncode_9a6ad_12 (by decide) ?_
      have hz_5 : (1 : Int32).toInt = 1 := by decide
      exact rp_zret hx hb hr hlocks hS (by first | exact Or.inl rfl | exact Or.inr rfl) (⟨show (1 : Int32).toInt = 1 from (by first | assumption | omega), show (1 : Int32).toInt = 0 ∨ (1 : Int32).toInt = 1 from (by first | assumption | omega)⟩) hQ dJ1_canEncode_9a6ad_16
set_option maxRecDepth 100000 in
set_option maxHeartbeats 4000000 in
theorem t_J1_indexOfCharm (l : Launch) (D : va_G) (cI cR cM : ClassId) (sz : Nat) {x y v : Int32} {adK adV : Nat → Nat} {B0 : Nat}  (hx0 : 0 ≤ x.toInt ∧ x.toInt ≤ 255) (h0 : y.toInt = 0 ∧ v.toInt = 11) : Met l yJ1_indexOfChar_4cfef wsJ1_indexOfChar_4cfef ({ frames := 0, cells := 0, slots := 0, locals := 0 }) (P0S D cI cR cM [.ref (adV 7), .int x, .int y, .int v] sz [] adK adV B0) (QP (fun r => ((0 ≤ r.toInt ∧ isSg x.toInt) ∨ (r.toInt < 0 ∧ ¬ isSg x.toInt))) sz) 0 0 (va_A [] sz) := by
  refine goS (cc := cJ1_indexOfChar_4cfef) (maxL := 6) (ret := (some .int)) (by decide +kernel) rfl (Nat.le_of_ble_eq_true rfl) ?_
  intro p e s m below meth c ls args Q hQ hsz hx hb hr hml hts hown hlocks hnm hP hK hD hl hST
  subst hsz
  have hS : va_S (va_A [] s.heap.size) s.heap s.heap [] := va_S.rf
  have hA : ∀ q, s.heap.size ≤ q → va_A [] s.heap.size q := fun q h => Or.inr h
  have hAB : ∀ q, va_A [] s.heap.size q → B0 ≤ q := fun q h => by
    rcases h with ⟨k, e9, h⟩ | h
    · simp at h
    · exact Nat.le_trans hST.1 h
  have hV := hST.2.1.narrow hAB
  have hZ9 := hST.2.2.2.1.narrow hAB
  have hQ9 := hST.2.2.2.2.narrow hAB
  have hl : lv_has ls 6 [(0, .ref (adV 7)), (1, .int x), (2, .int y), (3, .int v)] := hl
  have hl7 : lenS.getD 7 0 = 11 := by decide
  refine lv_iload_n hx hb dJ1_indexOfChar_4cfef_0 rfl (lv_at hl 1 rfl) ?_
  refine lv_i2b hx hb dJ1_indexOfChar_4cfef_1 rfl ?_
  refine lv_topi (fun z_1 q_1 => ?_)
  have e2_1 := i2b_e q_1 (by omega) (by omega)
  refine lv_istore (lv' := [(4, .int z_1), (0, .ref (adV 7)), (1, .int x), (2, .int y), (3, .int v)]) hx hb dJ1_indexOfChar_4cfef_2 hl (by decide) rfl (fun ls hl => ?_)
  refine lv_iload_n hx hb dJ1_indexOfChar_4cfef_4 rfl (lv_at hl 3 rfl) ?_
  refine lv_istore (lv' := [(5, .int y), (4, .int z_1), (0, .ref (adV 7)), (1, .int x), (2, .int y), (3, .int v)]) hx hb dJ1_indexOfChar_4cfef_5 hl (by decide) rfl (fun ls hl => ?_)
  have loop7 : ∀ (ddloop7 : Nat) (ii : Int32) (H : Heap) (locs : List Loc) (ls : Array Slot), (20 - ii.toInt).toNat < ddloop7 → (0 ≤ ii.toInt ∧ ii.toInt ≤ 11) → (∀ j9 : Int, 0 ≤ j9 → j9 < ii.toInt → ((bytS.getD 7 []).getD j9.toNat 0).toInt ≠ x.toInt) → va_P D vwCl [] H → va_S (va_A [] s.heap.size) s.heap H locs → lv_has ls 6 [(0, .ref (adV 7)), (1, .int x), (2, .int y), (3, .int v), (4, .int z_1), (5, .int ii)] → W p l e ({ frames := 0, cells := 0, slots := 0, locals := 0 }) s m args below meth c H locs (0) (0) Q (F0 m 7 ls []) := by
    intro ddloop7
    induction ddloop7 with
    | zero =>
      intro ii H locs ls hdd
      exact absurd hdd (Nat.not_lt_zero _)
    | succ ddloop7 ih7 =>
      intro ii H locs ls hdd hi hno hP hS hl
      refine lv_iload hx hb dJ1_indexOfChar_4cfef_7 (lv_at hl 5 rfl) ?_
      refine lv_iload_n hx hb dJ1_indexOfChar_4cfef_9 rfl (lv_at hl 3 rfl) ?_
      refine a_icmp_ge (u := ii.toInt) (v := v.toInt) (tgt := 31) hx hb dJ1_indexOfChar_4cfef_10 (by decide) (rfl) (rfl) (fun c_3 => ?_) (fun c_3 => ?_)
      · refine lv_iconst (v := (-1)) hx hb dJ1_indexOfChar_4cfef_31 (by decide) ?_
        have hz_4 : (-1 : Int32).toInt = (-1) := by decide
        exact rp_iret hx hb hr hlocks hS (show (0 ≤ (-1 : Int32).toInt ∧ isSg x.toInt) ∨ ((-1 : Int32).toInt < 0 ∧ ¬ isSg x.toInt) from (Or.inr ⟨by decide, sg_iff (fun j9 h8 h9 => hno j9 h8 (by omega))⟩)) hQ dJ1_indexOfChar_4cfef_32
      · refine lv_aload_n hx hb dJ1_indexOfChar_4cfef_13 rfl (lv_at hl 0 rfl) ?_
        refine lv_iload hx hb dJ1_indexOfChar_4cfef_14 (lv_at hl 5 rfl) ?_
        refine va_tb hx hb (hV.1 7 (by decide)).2.2.2 hS (i_in (a := ii.toInt) (rfl) (by omega) (by omega)) rfl dJ1_indexOfChar_4cfef_16 ?_
        refine lv_topi (fun z_5 q_5 => ?_)
        have s4_5 := sg40 (j := ii.toInt) (by omega) q_5
        refine lv_iload hx hb dJ1_indexOfChar_4cfef_17 (lv_at hl 4 rfl) ?_
        refine a_icmp_ne (u := z_5.toInt) (v := z_1.toInt) (tgt := 25) hx hb dJ1_indexOfChar_4cfef_19 (by decide) (rfl) (rfl) (fun c_6 => ?_) (fun c_6 => ?_)
        · obtain ⟨z_7, q_7, e_7⟩ := i_inc (a := ii.toInt) (1) (rfl) (by decide) (by omega) (by omega)
          refine lv_iinc (v := z_7) (lv' := [(5, .int z_7), (0, .ref (adV 7)), (1, .int x), (2, .int y), (3, .int v), (4, .int z_1)]) hx hb dJ1_indexOfChar_4cfef_25 hl (k := 5) rfl q_7 (by decide) rfl (fun ls hl => ?_)
          refine lv_goto (tgt := 7) hx hb dJ1_indexOfChar_4cfef_28 (by decide) ?_
          exact ih7 z_7 _ _ _ (by omega) (by first | assumption | omega) (fun j9 h8 h9 => by
            by_cases q9 : j9 = ii.toInt
            · have e5 : z_5 = ((bytS.getD 7 []).getD ii.toInt.toNat 0) := q_5
              rw [q9, ← e5]
              intro q8
              have h7 := i2b_s q_1 (by omega) (by have := sg_b ii.toInt.toNat (by omega); rw [← e5] at this; omega)
              omega
            · exact hno j9 h8 (by omega)) hP hS (lv_sub hl [1, 2, 3, 4, 5, 0] rfl)
        · refine lv_iload hx hb dJ1_indexOfChar_4cfef_22 (lv_at hl 5 rfl) ?_
          exact rp_iret hx hb hr hlocks hS (show (0 ≤ ii.toInt ∧ isSg x.toInt) ∨ (ii.toInt < 0 ∧ ¬ isSg x.toInt) from (Or.inl ⟨by omega, sg_ix (by omega) (by omega) q_5 (by omega)⟩)) hQ dJ1_indexOfChar_4cfef_24
  exact loop7 ((20 - y.toInt).toNat + 1) y _ _ _ (by omega) (by first | assumption | omega) (fun j9 h8 h9 => absurd h9 (by omega)) hP hS (lv_sub hl [2, 3, 4, 5, 1, 0] rfl)
set_option maxRecDepth 100000 in
set_option maxHeartbeats 4000000 in
theorem t_J1_indexOfm (l : Launch) (D : va_G) (cI cR cM : ClassId) (sz : Nat) {x y v : Int32} {adK adV : Nat → Nat} {B0 : Nat}  (hx0 : 0 ≤ x.toInt ∧ x.toInt ≤ 255) (h0 : y.toInt = 0 ∧ v.toInt = 11) : Met l yJ1_indexOf_4cfef wsJ1_indexOf_4cfef ({ frames := 1, cells := 0, slots := 0, locals := 25 }) (P0S D cI cR cM [.ref (adV 7), .int x, .int y, .int v] sz [] adK adV B0) (QP (fun r => ((0 ≤ r.toInt ∧ isSg x.toInt) ∨ (r.toInt < 0 ∧ ¬ isSg x.toInt))) sz) 0 0 (va_A [] sz) := by
  refine goS (cc := cJ1_indexOf_4cfef) (maxL := 4) (ret := (some .int)) (by decide +kernel) rfl (Nat.le_of_ble_eq_true rfl) ?_
  intro p e s m below meth c ls args Q hQ hsz hx hb hr hml hts hown hlocks hnm hP hK hD hl hST
  subst hsz
  have hS : va_S (va_A [] s.heap.size) s.heap s.heap [] := va_S.rf
  have hA : ∀ q, s.heap.size ≤ q → va_A [] s.heap.size q := fun q h => Or.inr h
  have hAB : ∀ q, va_A [] s.heap.size q → B0 ≤ q := fun q h => by
    rcases h with ⟨k, e9, h⟩ | h
    · simp at h
    · exact Nat.le_trans hST.1 h
  have hV := hST.2.1.narrow hAB
  have hZ9 := hST.2.2.2.1.narrow hAB
  have hQ9 := hST.2.2.2.2.narrow hAB
  have hl : lv_has ls 4 [(0, .ref (adV 7)), (1, .int x), (2, .int y), (3, .int v)] := hl
  have hl7 : lenS.getD 7 0 = 11 := by decide
  refine lv_iload_n hx hb dJ1_indexOf_4cfef_0 rfl (lv_at hl 1 rfl) ?_
  refine roP (va_runS (As := [.int x]) (rest := []) ⟨hx, hb, hml, hown, hts⟩ (t_J1_canEncodem l D cI cR cM _     (by first | assumption | omega)) (va_cwS 1 hts gJ1_indexOf_4cfef_J1_canEncode_9a6ad rfl rfl rfl (by decide +kernel) ⟨Nat.le_of_ble_eq_true rfl, Nat.le_of_ble_eq_true rfl⟩) (pre_S hK va_P_nil (va_D_nil (A := fun _ => True))) rfl rfl hl.1 rfl (lv_room (Nat.le_of_ble_eq_true rfl)) dJ1_indexOf_4cfef_1 ⟨Nat.le_of_ble_eq_true rfl, Nat.le_of_ble_eq_true rfl⟩) hS hA hP (fun r_1 H locs hw hP hS => ?_)
  obtain ⟨h1_1, h01_1⟩ : (r_1.toInt = 1) ∧ (r_1.toInt = 0 ∨ r_1.toInt = 1) := hw
  refine a_if_ne (u := r_1.toInt) (tgt := 9) hx hb dJ1_indexOf_4cfef_4 (by decide) (rfl) (fun c_2 => ?_) (fun c_2 => absurd c_2 (by omega))
  refine lv_iload_n hx hb dJ1_indexOf_4cfef_9 rfl (lv_at hl 2 rfl) ?_
  refine lv_iconst (v := 0) hx hb dJ1_indexOf_4cfef_10 (by decide) ?_
  refine va_mmax hx hb (by rw [hml]; exact hl.1.symm) hown (hts (.methodLink RJ1 92 Lib.Math.max.name) (by decide +kernel)) (hts (.static Lib.Math.max.name) (by decide +kernel)) (hts (.initialized "java/lang/Math") (by decide +kernel)) (hts (.code Lib.Math.max.name Lib.Math.max.code 2 (some .int)) (by decide +kernel)) (Nat.le_of_ble_eq_true rfl) (Nat.le_of_ble_eq_true rfl) (Nat.le_of_ble_eq_true rfl) (Nat.le_of_ble_eq_true rfl) dJ1_indexOf_4cfef_11 ?_
  refine lv_topi (fun z_3 q_3 => ?_)
  obtain ⟨e1_3, e2_3, e3_3⟩ := i_max (u := y.toInt) (v := 0) (rfl) (by decide) q_3
  refine lv_istore_n (lv' := [(2, .int z_3), (0, .ref (adV 7)), (1, .int x), (3, .int v)]) hx hb dJ1_indexOf_4cfef_14 rfl hl (by decide) rfl (fun ls hl => ?_)
  refine lv_iload_n hx hb dJ1_indexOf_4cfef_15 rfl (lv_at hl 3 rfl) ?_
  refine lv_aload_n hx hb dJ1_indexOf_4cfef_16 rfl (lv_at hl 1 rfl) ?_
  refine va_tlen hx hb (hV.1 7 (by decide)).2.2.2 hS (v := nI (lenS.getD 7 0)) rfl dJ1_indexOf_4cfef_17 ?_
  refine lv_topi (fun z_4 q_4 => ?_)
  have e_4 : z_4.toInt = (lenS.getD 7 0 : Nat) ∧ lenS.getD 7 0 ≤ 11 := lnS (by decide) q_4
  refine va_mmin hx hb (by rw [hml]; exact hl.1.symm) hown (hts (.methodLink RJ1 38 Lib.Math.min.name) (by decide +kernel)) (hts (.static Lib.Math.min.name) (by decide +kernel)) (hts (.initialized "java/lang/Math") (by decide +kernel)) (hts (.code Lib.Math.min.name Lib.Math.min.code 2 (some .int)) (by decide +kernel)) (Nat.le_of_ble_eq_true rfl) (Nat.le_of_ble_eq_true rfl) (Nat.le_of_ble_eq_true rfl) (Nat.le_of_ble_eq_true rfl) dJ1_indexOf_4cfef_18 ?_
  refine lv_topi (fun z_5 q_5 => ?_)
  obtain ⟨e1_5, e2_5, e3_5⟩ := i_min (u := v.toInt) (v := z_4.toInt) (rfl) (rfl) q_5
  refine lv_istore_n (lv' := [(3, .int z_5), (2, .int z_3), (0, .ref (adV 7)), (1, .int x)]) hx hb dJ1_indexOf_4cfef_21 rfl hl (by decide) rfl (fun ls hl => ?_)
  refine lv_iload_n hx hb dJ1_indexOf_4cfef_22 rfl (lv_at hl 1 rfl) ?_
  refine lv_iload_n hx hb dJ1_indexOf_4cfef_23 rfl (lv_at hl 0 rfl) ?_
  refine a_icmp_lt (u := z_3.toInt) (v := z_5.toInt) (tgt := 29) hx hb dJ1_indexOf_4cfef_24 (by decide) (rfl) (rfl) (fun c_6 => ?_) (fun c_6 => absurd c_6 (by omega))
  refine lv_aload_n hx hb dJ1_indexOf_4cfef_29 rfl (lv_at hl 2 rfl) ?_
  refine lv_iload_n hx hb dJ1_indexOf_4cfef_30 rfl (lv_at hl 3 rfl) ?_
  refine lv_iload_n hx hb dJ1_indexOf_4cfef_31 rfl (lv_at hl 1 rfl) ?_
  refine lv_iload_n hx hb dJ1_indexOf_4cfef_32 rfl (lv_at hl 0 rfl) ?_
  refine roP (va_runS (As := [.ref (adV 7), .int x, .int z_3, .int z_5]) (rest := []) ⟨hx, hb, hml, hown, hts⟩ (t_J1_indexOfCharm l D cI cR cM _     (by first | assumption | omega) (by first | assumption | omega)) (va_cwS 4 hts gJ1_indexOf_4cfef_J1_indexOfChar_4cfef rfl rfl rfl (by decide +kernel) ⟨Nat.le_of_ble_eq_true rfl, Nat.le_of_ble_eq_true rfl⟩) (pre_SS hK hST hS hAB va_P_nil (va_D_nil (A := fun _ => True))) rfl rfl hl.1 rfl (lv_room (Nat.le_of_ble_eq_true rfl)) dJ1_indexOf_4cfef_33 ⟨Nat.le_of_ble_eq_true rfl, Nat.le_of_ble_eq_true rfl⟩) hS hA hP (fun r_7 H locs hw hP hS => ?_)
  have hs_7 : ((0 ≤ r_7.toInt ∧ isSg x.toInt) ∨ (r_7.toInt < 0 ∧ ¬ isSg x.toInt)) := hw
  exact rp_iret hx hb hr hlocks hS (show (0 ≤ r_7.toInt ∧ isSg x.toInt) ∨ (r_7.toInt < 0 ∧ ¬ isSg x.toInt) from (by first | assumption | omega)) hQ dJ1_indexOf_4cfef_36
set_option maxRecDepth 100000 in
set_option maxHeartbeats 4000000 in
theorem t_J0_indexOf2m (l : Launch) (D : va_G) (cI cR cM : ClassId) (sz : Nat) {x y : Int32} {adK adV : Nat → Nat} {B0 : Nat}  (hx0 : 0 ≤ x.toInt ∧ x.toInt ≤ 255) (h0 : y.toInt = 0) : Met l yJ0_indexOf_7cf53 wsJ0_indexOf_7cf53 ({ frames := 2, cells := 0, slots := 0, locals := 48 }) (P0S D cI cR cM [.ref (adK 7), .int x, .int y] sz [] adK adV B0) (QP (fun r => ((0 ≤ r.toInt ∧ isSg x.toInt) ∨ (r.toInt < 0 ∧ ¬ isSg x.toInt))) sz) 0 0 (va_A [] sz) := by
  refine goS (cc := cJ0_indexOf_7cf53) (maxL := 3) (ret := (some .int)) (by decide +kernel) rfl (Nat.le_of_ble_eq_true rfl) ?_
  intro p e s m below meth c ls args Q hQ hsz hx hb hr hml hts hown hlocks hnm hP hK hD hl hST
  subst hsz
  have hS : va_S (va_A [] s.heap.size) s.heap s.heap [] := va_S.rf
  have hA : ∀ q, s.heap.size ≤ q → va_A [] s.heap.size q := fun q h => Or.inr h
  have hAB : ∀ q, va_A [] s.heap.size q → B0 ≤ q := fun q h => by
    rcases h with ⟨k, e9, h⟩ | h
    · simp at h
    · exact Nat.le_trans hST.1 h
  have hV := hST.2.1.narrow hAB
  have hZ9 := hST.2.2.2.1.narrow hAB
  have hQ9 := hST.2.2.2.2.narrow hAB
  have hl : lv_has ls 3 [(0, .ref (adK 7)), (1, .int x), (2, .int y)] := hl
  have hl7 : lenS.getD 7 0 = 11 := by decide
  refine lv_aload_n hx hb dJ0_indexOf_7cf53_0 rfl (lv_at hl 0 rfl) ?_
  refine roP (va_runV (As := []) (rest := []) ⟨hx, hb, hml, hown, hts⟩ (t_J0_isLatin1_aae02 l D cI cR cM _  (i := 7)   (by first | assumption | omega)) (cwV 0 hts gJ0_indexOf_7cf53_J0_isLatin1_aae02 rfl rfl rfl (by decide +kernel) ⟨Nat.le_of_ble_eq_true rfl, Nat.le_of_ble_eq_true rfl⟩) (pre_SV hK hST hS hAB hV (by decide)) rfl rfl hl.1 rfl (lv_room (Nat.le_of_ble_eq_true rfl)) dJ0_indexOf_7cf53_1 ⟨Nat.le_of_ble_eq_true rfl, Nat.le_of_ble_eq_true rfl⟩) hS hA hP (fun r_1 H locs hw hP hS => ?_)
  obtain ⟨h_1, h01_1⟩ : (r_1.toInt = 1) ∧ (r_1.toInt = 0 ∨ r_1.toInt = 1) := hw
  refine a_if_eq (u := r_1.toInt) (tgt := 23) hx hb dJ0_indexOf_7cf53_4 (by decide) (rfl) (fun c_2 => absurd c_2 (by omega)) (fun c_2 => ?_)
  refine lv_aload_n hx hb dJ0_indexOf_7cf53_7 rfl (lv_at hl 0 rfl) ?_
  refine vk_getf hx hb (hV.1 7 (by decide)).2.2.1 hS hown (hts (.fieldLink RJ0 9 "java/lang/String" "value" "[B") (by decide +kernel)) (fun _ h9 => h9) dJ0_indexOf_7cf53_8 ?_
  refine lv_iload_n hx hb dJ0_indexOf_7cf53_11 rfl (lv_at hl 1 rfl) ?_
  refine lv_iload_n hx hb dJ0_indexOf_7cf53_12 rfl (lv_at hl 2 rfl) ?_
  refine lv_aload_n hx hb dJ0_indexOf_7cf53_13 rfl (lv_at hl 0 rfl) ?_
  refine roP (va_runV (As := []) (rest := [.int y, .int x, .ref (adV 7)]) ⟨hx, hb, hml, hown, hts⟩ (t_J0_length_8abf5 l D cI cR cM _  (i := 7)   (by first | assumption | omega)) (cwV 0 hts gJ0_indexOf_7cf53_J0_length_8abf5 rfl rfl rfl (by decide +kernel) ⟨Nat.le_of_ble_eq_true rfl, Nat.le_of_ble_eq_true rfl⟩) (pre_SV hK hST hS hAB hV (by decide)) rfl rfl hl.1 rfl (lv_room (Nat.le_of_ble_eq_true rfl)) dJ0_indexOf_7cf53_14 ⟨Nat.le_of_ble_eq_true rfl, Nat.le_of_ble_eq_true rfl⟩) hS hA hP (fun r_3 H locs hw hP hS => ?_)
  obtain ⟨h_3, h11_3⟩ : (r_3.toInt = (lenS.getD 7 0 : Nat)) ∧ (lenS.getD 7 0 ≤ 11) := hw
  refine roP (va_runS (As := [.ref (adV 7), .int x, .int y, .int r_3]) (rest := []) ⟨hx, hb, hml, hown, hts⟩ (t_J1_indexOfm l D cI cR cM _     (by first | assumption | omega) (by first | assumption | omega)) (va_cwS 4 hts gJ0_indexOf_7cf53_J1_indexOf_4cfef rfl rfl rfl (by decide +kernel) ⟨Nat.le_of_ble_eq_true rfl, Nat.le_of_ble_eq_true rfl⟩) (pre_SS hK hST hS hAB va_P_nil (va_D_nil (A := fun _ => True))) rfl rfl hl.1 rfl (lv_room (Nat.le_of_ble_eq_true rfl)) dJ0_indexOf_7cf53_17 ⟨Nat.le_of_ble_eq_true rfl, Nat.le_of_ble_eq_true rfl⟩) hS hA hP (fun r_4 H locs hw hP hS => ?_)
  have hs_4 : ((0 ≤ r_4.toInt ∧ isSg x.toInt) ∨ (r_4.toInt < 0 ∧ ¬ isSg x.toInt)) := hw
  refine lv_goto (tgt := 36) hx hb dJ0_indexOf_7cf53_20 (by decide) ?_
  exact rp_iret hx hb hr hlocks hS (show (0 ≤ r_4.toInt ∧ isSg x.toInt) ∨ (r_4.toInt < 0 ∧ ¬ isSg x.toInt) from (by first | assumption | omega)) hQ dJ0_indexOf_7cf53_36
set_option maxRecDepth 100000 in
set_option maxHeartbeats 4000000 in
theorem t_J0_indexOf1m (l : Launch) (D : va_G) (cI cR cM : ClassId) (sz : Nat) {x : Int32} {adK adV : Nat → Nat} {B0 : Nat}  (hx0 : 0 ≤ x.toInt ∧ x.toInt ≤ 255) : Met l yJ0_indexOf_0f7a4 wsJ0_indexOf_0f7a4 ({ frames := 3, cells := 0, slots := 0, locals := 70 }) (P0S D cI cR cM [.ref (adK 7), .int x] sz [] adK adV B0) (QP (fun r => ((0 ≤ r.toInt ∧ isSg x.toInt) ∨ (r.toInt < 0 ∧ ¬ isSg x.toInt))) sz) 0 0 (va_A [] sz) := by
  refine goS (cc := cJ0_indexOf_0f7a4) (maxL := 2) (ret := (some .int)) (by decide +kernel) rfl (Nat.le_of_ble_eq_true rfl) ?_
  intro p e s m below meth c ls args Q hQ hsz hx hb hr hml hts hown hlocks hnm hP hK hD hl hST
  subst hsz
  have hS : va_S (va_A [] s.heap.size) s.heap s.heap [] := va_S.rf
  have hA : ∀ q, s.heap.size ≤ q → va_A [] s.heap.size q := fun q h => Or.inr h
  have hAB : ∀ q, va_A [] s.heap.size q → B0 ≤ q := fun q h => by
    rcases h with ⟨k, e9, h⟩ | h
    · simp at h
    · exact Nat.le_trans hST.1 h
  have hV := hST.2.1.narrow hAB
  have hZ9 := hST.2.2.2.1.narrow hAB
  have hQ9 := hST.2.2.2.2.narrow hAB
  have hl : lv_has ls 2 [(0, .ref (adK 7)), (1, .int x)] := hl
  refine lv_aload_n hx hb dJ0_indexOf_0f7a4_0 rfl (lv_at hl 0 rfl) ?_
  refine lv_iload_n hx hb dJ0_indexOf_0f7a4_1 rfl (lv_at hl 1 rfl) ?_
  refine lv_iconst (v := 0) hx hb dJ0_indexOf_0f7a4_2 (by decide) ?_
  have hz_1 : (0 : Int32).toInt = 0 := by decide
  refine roP (va_runV (As := [.int x, .int 0]) (rest := []) ⟨hx, hb, hml, hown, hts⟩ (t_J0_indexOf2m l D cI cR cM _     (by first | assumption | omega) (by first | assumption | omega)) (cwV 2 hts gJ0_indexOf_0f7a4_J0_indexOf_7cf53 rfl rfl rfl (by decide +kernel) ⟨Nat.le_of_ble_eq_true rfl, Nat.le_of_ble_eq_true rfl⟩) (pre_SV hK hST hS hAB hV (by decide)) rfl rfl hl.1 rfl (lv_room (Nat.le_of_ble_eq_true rfl)) dJ0_indexOf_0f7a4_3 ⟨Nat.le_of_ble_eq_true rfl, Nat.le_of_ble_eq_true rfl⟩) hS hA hP (fun r_2 H locs hw hP hS => ?_)
  have hs_2 : ((0 ≤ r_2.toInt ∧ isSg x.toInt) ∨ (r_2.toInt < 0 ∧ ¬ isSg x.toInt)) := hw
  exact rp_iret hx hb hr hlocks hS (show (0 ≤ r_2.toInt ∧ isSg x.toInt) ∨ (r_2.toInt < 0 ∧ ¬ isSg x.toInt) from (by first | assumption | omega)) hQ dJ0_indexOf_0f7a4_6
set_option maxRecDepth 100000 in
set_option maxHeartbeats 4000000 in
theorem t_X8_signKindm (l : Launch) (D : va_G) (cI cR cM : ClassId) (sz : Nat) {x : Int32} {adK adV : Nat → Nat} {B0 : Nat}  (hx0 : 0 ≤ x.toInt ∧ x.toInt ≤ 255) : Met l yX8_signKind wsX8_signKind ({ frames := 4, cells := 0, slots := 0, locals := 91 }) (P0S D cI cR cM [.int x] sz [] adK adV B0) (QP (fun r => ((48 ≤ x.toInt ∧ x.toInt ≤ 57 ∧ r.toInt = 2) ∨ (¬ (48 ≤ x.toInt ∧ x.toInt ≤ 57) ∧ isSg x.toInt ∧ r.toInt = x.toInt) ∨ (¬ (48 ≤ x.toInt ∧ x.toInt ≤ 57) ∧ ¬ isSg x.toInt ∧ r.toInt = 1))) sz) 0 0 (va_A [] sz) := by
  refine goS (cc := cX8_signKind) (maxL := 1) (ret := (some .int)) (by decide +kernel) rfl (Nat.le_of_ble_eq_true rfl) ?_
  intro p e s m below meth c ls args Q hQ hsz hx hb hr hml hts hown hlocks hnm hP hK hD hl hST
  subst hsz
  have hS : va_S (va_A [] s.heap.size) s.heap s.heap [] := va_S.rf
  have hA : ∀ q, s.heap.size ≤ q → va_A [] s.heap.size q := fun q h => Or.inr h
  have hAB : ∀ q, va_A [] s.heap.size q → B0 ≤ q := fun q h => by
    rcases h with ⟨k, e9, h⟩ | h
    · simp at h
    · exact Nat.le_trans hST.1 h
  have hV := hST.2.1.narrow hAB
  have hZ9 := hST.2.2.2.1.narrow hAB
  have hQ9 := hST.2.2.2.2.narrow hAB
  have hl : lv_has ls 1 [(0, .int x)] := hl
  refine lv_iload_n hx hb dX8_signKind_0 rfl (lv_at hl 0 rfl) ?_
  refine lv_bipush (v := 48) hx hb dX8_signKind_1 (by decide) ?_
  refine a_icmp_lt (u := x.toInt) (v := 48) (tgt := 14) hx hb dX8_signKind_3 (by decide) (rfl) (by decide) (fun c_1 => ?_) (fun c_1 => ?_)
  · refine va_ldcS hx hb hown (show vk_R RX8 71 "=;*()[]<>|?" (adK 7) s from hST.2.2.1 7 (by decide)) dX8_signKind_14 ?_
    refine lv_iload_n hx hb dX8_signKind_16 rfl (lv_at hl 0 rfl) ?_
    refine lv_i2c hx hb dX8_signKind_17 rfl ?_
    refine lv_topi (fun z_2 q_2 => ?_)
    have hcx := i2c_e q_2 (by omega) (by omega)
    refine roP (va_runV (As := [.int z_2]) (rest := []) ⟨hx, hb, hml, hown, hts⟩ (t_J0_indexOf1m l D cI cR cM _     (by first | assumption | omega)) (cwV 1 hts gX8_signKind_J0_indexOf_0f7a4 rfl rfl rfl (by decide +kernel) ⟨Nat.le_of_ble_eq_true rfl, Nat.le_of_ble_eq_true rfl⟩) (pre_SV hK hST hS hAB hV (by decide)) rfl rfl hl.1 rfl (lv_room (Nat.le_of_ble_eq_true rfl)) dX8_signKind_18 ⟨Nat.le_of_ble_eq_true rfl, Nat.le_of_ble_eq_true rfl⟩) hS hA hP (fun r_3 H locs hw hP hS => ?_)
    have hs_3 : ((0 ≤ r_3.toInt ∧ isSg z_2.toInt) ∨ (r_3.toInt < 0 ∧ ¬ isSg z_2.toInt)) := hw
    refine a_if_lt (u := r_3.toInt) (tgt := 28) hx hb dX8_signKind_21 (by decide) (rfl) (fun c_4 => ?_) (fun c_4 => ?_)
    · refine lv_iconst (v := 1) hx hb dX8_signKind_28 (by decide) ?_
      have hz_5 : (1 : Int32).toInt = 1 := by decide
      exact rp_iret hx hb hr hlocks hS (show (48 ≤ x.toInt ∧ x.toInt ≤ 57 ∧ (1 : Int32).toInt = 2) ∨ (¬ (48 ≤ x.toInt ∧ x.toInt ≤ 57) ∧ isSg x.toInt ∧ (1 : Int32).toInt = x.toInt) ∨ (¬ (48 ≤ x.toInt ∧ x.toInt ≤ 57) ∧ ¬ isSg x.toInt ∧ (1 : Int32).toInt = 1) from (by
        have h8 := (hs_3.resolve_left (fun q9 => by have := q9.1; omega)).2
        rw [hcx] at h8
        exact Or.inr (Or.inr ⟨by omega, h8, by decide⟩))) hQ dX8_signKind_29
    · refine lv_iload_n hx hb dX8_signKind_24 rfl (lv_at hl 0 rfl) ?_
      refine lv_goto (tgt := 29) hx hb dX8_signKind_25 (by decide) ?_
      exact rp_iret hx hb hr hlocks hS (show (48 ≤ x.toInt ∧ x.toInt ≤ 57 ∧ x.toInt = 2) ∨ (¬ (48 ≤ x.toInt ∧ x.toInt ≤ 57) ∧ isSg x.toInt ∧ x.toInt = x.toInt) ∨ (¬ (48 ≤ x.toInt ∧ x.toInt ≤ 57) ∧ ¬ isSg x.toInt ∧ x.toInt = 1) from (by
        have h8 := (hs_3.resolve_right (fun q9 => by have := q9.1; omega)).2
        rw [hcx] at h8
        exact Or.inr (Or.inl ⟨by omega, h8, rfl⟩))) hQ dX8_signKind_29
  · refine lv_iload_n hx hb dX8_signKind_6 rfl (lv_at hl 0 rfl) ?_
    refine lv_bipush (v := 57) hx hb dX8_signKind_7 (by decide) ?_
    refine a_icmp_gt (u := x.toInt) (v := 57) (tgt := 14) hx hb dX8_signKind_9 (by decide) (rfl) (by decide) (fun c_6 => ?_) (fun c_6 => ?_)
    · refine va_ldcS hx hb hown (show vk_R RX8 71 "=;*()[]<>|?" (adK 7) s from hST.2.2.1 7 (by decide)) dX8_signKind_14 ?_
      refine lv_iload_n hx hb dX8_signKind_16 rfl (lv_at hl 0 rfl) ?_
      refine lv_i2c hx hb dX8_signKind_17 rfl ?_
      refine lv_topi (fun z_7 q_7 => ?_)
      have hcx := i2c_e q_7 (by omega) (by omega)
      refine roP (va_runV (As := [.int z_7]) (rest := []) ⟨hx, hb, hml, hown, hts⟩ (t_J0_indexOf1m l D cI cR cM _     (by first | assumption | omega)) (cwV 1 hts gX8_signKind_J0_indexOf_0f7a4 rfl rfl rfl (by decide +kernel) ⟨Nat.le_of_ble_eq_true rfl, Nat.le_of_ble_eq_true rfl⟩) (pre_SV hK hST hS hAB hV (by decide)) rfl rfl hl.1 rfl (lv_room (Nat.le_of_ble_eq_true rfl)) dX8_signKind_18 ⟨Nat.le_of_ble_eq_true rfl, Nat.le_of_ble_eq_true rfl⟩) hS hA hP (fun r_8 H locs hw hP hS => ?_)
      have hs_8 : ((0 ≤ r_8.toInt ∧ isSg z_7.toInt) ∨ (r_8.toInt < 0 ∧ ¬ isSg z_7.toInt)) := hw
      refine a_if_lt (u := r_8.toInt) (tgt := 28) hx hb dX8_signKind_21 (by decide) (rfl) (fun c_9 => ?_) (fun c_9 => ?_)
      · refine lv_iconst (v := 1) hx hb dX8_signKind_28 (by decide) ?_
        have hz_10 : (1 : Int32).toInt = 1 := by decide
        exact rp_iret hx hb hr hlocks hS (show (48 ≤ x.toInt ∧ x.toInt ≤ 57 ∧ (1 : Int32).toInt = 2) ∨ (¬ (48 ≤ x.toInt ∧ x.toInt ≤ 57) ∧ isSg x.toInt ∧ (1 : Int32).toInt = x.toInt) ∨ (¬ (48 ≤ x.toInt ∧ x.toInt ≤ 57) ∧ ¬ isSg x.toInt ∧ (1 : Int32).toInt = 1) from (by
          have h8 := (hs_8.resolve_left (fun q9 => by have := q9.1; omega)).2
          rw [hcx] at h8
          exact Or.inr (Or.inr ⟨by omega, h8, by decide⟩))) hQ dX8_signKind_29
      · refine lv_iload_n hx hb dX8_signKind_24 rfl (lv_at hl 0 rfl) ?_
        refine lv_goto (tgt := 29) hx hb dX8_signKind_25 (by decide) ?_
        exact rp_iret hx hb hr hlocks hS (show (48 ≤ x.toInt ∧ x.toInt ≤ 57 ∧ x.toInt = 2) ∨ (¬ (48 ≤ x.toInt ∧ x.toInt ≤ 57) ∧ isSg x.toInt ∧ x.toInt = x.toInt) ∨ (¬ (48 ≤ x.toInt ∧ x.toInt ≤ 57) ∧ ¬ isSg x.toInt ∧ x.toInt = 1) from (by
          have h8 := (hs_8.resolve_right (fun q9 => by have := q9.1; omega)).2
          rw [hcx] at h8
          exact Or.inr (Or.inl ⟨by omega, h8, rfl⟩))) hQ dX8_signKind_29
    · refine lv_iconst (v := 2) hx hb dX8_signKind_12 (by decide) ?_
      have hz_11 : (2 : Int32).toInt = 2 := by decide
      exact rp_iret hx hb hr hlocks hS (show (48 ≤ x.toInt ∧ x.toInt ≤ 57 ∧ (2 : Int32).toInt = 2) ∨ (¬ (48 ≤ x.toInt ∧ x.toInt ≤ 57) ∧ isSg x.toInt ∧ (2 : Int32).toInt = x.toInt) ∨ (¬ (48 ≤ x.toInt ∧ x.toInt ≤ 57) ∧ ¬ isSg x.toInt ∧ (2 : Int32).toInt = 1) from (Or.inl ⟨by omega, by omega, by decide⟩)) hQ dX8_signKind_13
set_option maxRecDepth 100000 in
set_option maxHeartbeats 4000000 in
theorem t_X8_isLetterm (l : Launch) (D : va_G) (cI cR cM : ClassId) (sz : Nat) {x : Int32}   : Met l yX8_isLetter wsX8_isLetter ({ frames := 0, cells := 0, slots := 0, locals := 0 }) (P0 D cI cR cM [.int x] sz []) (QP (fun r => ((r.toInt = 1 ∧ isLt x.toInt) ∨ (r.toInt = 0 ∧ ¬ isLt x.toInt)) ∧ (r.toInt = 0 ∨ r.toInt = 1)) sz) 0 0 (va_A [] sz) := by
  refine go (cc := cX8_isLetter) (maxL := 1) (ret := (some .boolean)) (by decide +kernel) rfl (Nat.le_of_ble_eq_true rfl) ?_
  intro p e s m below meth c ls args Q hQ hsz hx hb hr hml hts hown hlocks hnm hP hK hD hl
  subst hsz
  have hS : va_S (va_A [] s.heap.size) s.heap s.heap [] := va_S.rf
  have hA : ∀ q, s.heap.size ≤ q → va_A [] s.heap.size q := fun q h => Or.inr h
  have hl : lv_has ls 1 [(0, .int x)] := hl
  refine lv_iload_n hx hb dX8_isLetter_0 rfl (lv_at hl 0 rfl) ?_
  refine lv_bipush (v := 97) hx hb dX8_isLetter_1 (by decide) ?_
  refine a_icmp_lt (u := x.toInt) (v := 97) (tgt := 12) hx hb dX8_isLetter_3 (by decide) (rfl) (by decide) (fun c_1 => ?_) (fun c_1 => ?_)
  · refine lv_iload_n hx hb dX8_isLetter_12 rfl (lv_at hl 0 rfl) ?_
    refine lv_bipush (v := 65) hx hb dX8_isLetter_13 (by decide) ?_
    refine a_icmp_lt (u := x.toInt) (v := 65) (tgt := 28) hx hb dX8_isLetter_15 (by decide) (rfl) (by decide) (fun c_2 => ?_) (fun c_2 => ?_)
    · refine lv_iconst (v := 0) hx hb dX8_isLetter_28 (by decide) ?_
      have hz_3 : (0 : Int32).toInt = 0 := by decide
      exact rp_zret hx hb hr hlocks hS (by first | exact Or.inl rfl | exact Or.inr rfl) (⟨show ((0 : Int32).toInt = 1 ∧ isLt x.toInt) ∨ ((0 : Int32).toInt = 0 ∧ ¬ isLt x.toInt) from (by unfold isLt; omega), show (0 : Int32).toInt = 0 ∨ (0 : Int32).toInt = 1 from (by first | assumption | omega)⟩) hQ dX8_isLetter_29
    · refine lv_iload_n hx hb dX8_isLetter_18 rfl (lv_at hl 0 rfl) ?_
      refine lv_bipush (v := 90) hx hb dX8_isLetter_19 (by decide) ?_
      refine a_icmp_gt (u := x.toInt) (v := 90) (tgt := 28) hx hb dX8_isLetter_21 (by decide) (rfl) (by decide) (fun c_4 => ?_) (fun c_4 => ?_)
      · refine lv_iconst (v := 0) hx hb dX8_isLetter_28 (by decide) ?_
        have hz_5 : (0 : Int32).toInt = 0 := by decide
        exact rp_zret hx hb hr hlocks hS (by first | exact Or.inl rfl | exact Or.inr rfl) (⟨show ((0 : Int32).toInt = 1 ∧ isLt x.toInt) ∨ ((0 : Int32).toInt = 0 ∧ ¬ isLt x.toInt) from (by unfold isLt; omega), show (0 : Int32).toInt = 0 ∨ (0 : Int32).toInt = 1 from (by first | assumption | omega)⟩) hQ dX8_isLetter_29
      · refine lv_iconst (v := 1) hx hb dX8_isLetter_24 (by decide) ?_
        refine lv_goto (tgt := 29) hx hb dX8_isLetter_25 (by decide) ?_
        have hz_6 : (1 : Int32).toInt = 1 := by decide
        exact rp_zret hx hb hr hlocks hS (by first | exact Or.inl rfl | exact Or.inr rfl) (⟨show ((1 : Int32).toInt = 1 ∧ isLt x.toInt) ∨ ((1 : Int32).toInt = 0 ∧ ¬ isLt x.toInt) from (by unfold isLt; omega), show (1 : Int32).toInt = 0 ∨ (1 : Int32).toInt = 1 from (by first | assumption | omega)⟩) hQ dX8_isLetter_29
  · refine lv_iload_n hx hb dX8_isLetter_6 rfl (lv_at hl 0 rfl) ?_
    refine lv_bipush (v := 122) hx hb dX8_isLetter_7 (by decide) ?_
    refine a_icmp_le (u := x.toInt) (v := 122) (tgt := 24) hx hb dX8_isLetter_9 (by decide) (rfl) (by decide) (fun c_7 => ?_) (fun c_7 => ?_)
    · refine lv_iconst (v := 1) hx hb dX8_isLetter_24 (by decide) ?_
      refine lv_goto (tgt := 29) hx hb dX8_isLetter_25 (by decide) ?_
      have hz_8 : (1 : Int32).toInt = 1 := by decide
      exact rp_zret hx hb hr hlocks hS (by first | exact Or.inl rfl | exact Or.inr rfl) (⟨show ((1 : Int32).toInt = 1 ∧ isLt x.toInt) ∨ ((1 : Int32).toInt = 0 ∧ ¬ isLt x.toInt) from (by unfold isLt; omega), show (1 : Int32).toInt = 0 ∨ (1 : Int32).toInt = 1 from (by first | assumption | omega)⟩) hQ dX8_isLetter_29
    · refine lv_iload_n hx hb dX8_isLetter_12 rfl (lv_at hl 0 rfl) ?_
      refine lv_bipush (v := 65) hx hb dX8_isLetter_13 (by decide) ?_
      refine a_icmp_lt (u := x.toInt) (v := 65) (tgt := 28) hx hb dX8_isLetter_15 (by decide) (rfl) (by decide) (fun c_9 => ?_) (fun c_9 => ?_)
      · refine lv_iconst (v := 0) hx hb dX8_isLetter_28 (by decide) ?_
        have hz_10 : (0 : Int32).toInt = 0 := by decide
        exact rp_zret hx hb hr hlocks hS (by first | exact Or.inl rfl | exact Or.inr rfl) (⟨show ((0 : Int32).toInt = 1 ∧ isLt x.toInt) ∨ ((0 : Int32).toInt = 0 ∧ ¬ isLt x.toInt) from (by unfold isLt; omega), show (0 : Int32).toInt = 0 ∨ (0 : Int32).toInt = 1 from (by first | assumption | omega)⟩) hQ dX8_isLetter_29
      · refine lv_iload_n hx hb dX8_isLetter_18 rfl (lv_at hl 0 rfl) ?_
        refine lv_bipush (v := 90) hx hb dX8_isLetter_19 (by decide) ?_
        refine a_icmp_gt (u := x.toInt) (v := 90) (tgt := 28) hx hb dX8_isLetter_21 (by decide) (rfl) (by decide) (fun c_11 => ?_) (fun c_11 => ?_)
        · refine lv_iconst (v := 0) hx hb dX8_isLetter_28 (by decide) ?_
          have hz_12 : (0 : Int32).toInt = 0 := by decide
          exact rp_zret hx hb hr hlocks hS (by first | exact Or.inl rfl | exact Or.inr rfl) (⟨show ((0 : Int32).toInt = 1 ∧ isLt x.toInt) ∨ ((0 : Int32).toInt = 0 ∧ ¬ isLt x.toInt) from (by unfold isLt; omega), show (0 : Int32).toInt = 0 ∨ (0 : Int32).toInt = 1 from (by first | assumption | omega)⟩) hQ dX8_isLetter_29
        · refine lv_iconst (v := 1) hx hb dX8_isLetter_24 (by decide) ?_
          refine lv_goto (tgt := 29) hx hb dX8_isLetter_25 (by decide) ?_
          have hz_13 : (1 : Int32).toInt = 1 := by decide
          exact rp_zret hx hb hr hlocks hS (by first | exact Or.inl rfl | exact Or.inr rfl) (⟨show ((1 : Int32).toInt = 1 ∧ isLt x.toInt) ∨ ((1 : Int32).toInt = 0 ∧ ¬ isLt x.toInt) from (by unfold isLt; omega), show (1 : Int32).toInt = 0 ∨ (1 : Int32).toInt = 1 from (by first | assumption | omega)⟩) hQ dX8_isLetter_29
set_option maxRecDepth 100000 in
set_option maxHeartbeats 4000000 in
theorem t_X7_byteAtm (l : Launch) (D : va_G) (cI cR cM : ClassId) (sz : Nat) {jn : Nat} {g : Nat → Nat} {L : List Nat} {S : Sg} {f : Nat → va_E} {x : Int32} {cb : Nat → Int32} {n9 : Int} (hj : 1 ≤ jn ∧ jn ≤ 3) (hG : SG g L S) (hI : IN jn cI cR cM g L S f) (hj1 : jn = 1) (hTp : TpC cI g f cb n9) : Met l yX7_byteAt wsX7_byteAt ({ frames := 0, cells := 0, slots := 0, locals := 0 }) (P0 D cI cR cM [.ref (g 11), .int x] sz (va_pl L f)) (QP (fun r => (-1 ≤ r.toInt ∧ r.toInt ≤ 255) ∧ (r.toInt = sE cb n9 x.toInt)) sz) 0 0 (va_A [] sz) := by
  refine go (cc := cX7_byteAt) (maxL := 2) (ret := (some .int)) (by decide +kernel) rfl (Nat.le_of_ble_eq_true rfl) ?_
  intro p e s m below meth c ls args Q hQ hsz hx hb hr hml hts hown hlocks hnm hP hK hD hl
  subst hsz
  have hS : va_S (va_A [] s.heap.size) s.heap s.heap [] := va_S.rf
  have hA : ∀ q, s.heap.size ≤ q → va_A [] s.heap.size q := fun q h => Or.inr h
  have hl : lv_has ls 2 [(0, .ref (g 11)), (1, .int x)] := hl
  refine lv_iload_n hx hb dX7_byteAt_0 rfl (lv_at hl 1 rfl) ?_
  refine a_if_lt (u := x.toInt) (tgt := 12) hx hb dX7_byteAt_1 (by decide) (rfl) (fun c_1 => ?_) (fun c_1 => ?_)
  · refine lv_iconst (v := (-1)) hx hb dX7_byteAt_12 (by decide) ?_
    refine lv_goto (tgt := 22) hx hb dX7_byteAt_13 (by decide) ?_
    have hz_2 : (-1 : Int32).toInt = (-1) := by decide
    exact rp_iret hx hb hr hlocks hS (⟨show -1 ≤ (-1 : Int32).toInt ∧ (-1 : Int32).toInt ≤ 255 from (by first | assumption | omega | (subst hj1; omega)), show (-1 : Int32).toInt = sE cb n9 x.toInt from (by
      unfold sE
      rw [if_neg (by subst hj1; omega)]; decide)⟩) hQ dX7_byteAt_22
  · refine lv_iload_n hx hb dX7_byteAt_4 rfl (lv_at hl 1 rfl) ?_
    refine lv_aload_n hx hb dX7_byteAt_5 rfl (lv_at hl 0 rfl) ?_
    obtain ⟨len_3, fg_3, iv0_3, iv1_3⟩ := op_11 hI (gm_11 hG) (gs_11 hG)
    refine t_get (D := D) (L := L) (f := f) (ci := 7) (v := .int len_3) (C := RX7) (T := TX7) (N := 2) hx hb hts (by decide +kernel) hown hK.1 hP (gm_11 hG) fg_3 rfl 1 (by decide) (hts (.fieldLink RX7 15 "JugglingHall$Tape" "length" "I") (by decide +kernel)) (fun _ h9 => h9) rfl dX7_byteAt_6 ?_
    refine a_icmp_lt (u := x.toInt) (v := len_3.toInt) (tgt := 16) hx hb dX7_byteAt_9 (by decide) (rfl) (rfl) (fun c_4 => ?_) (fun c_4 => ?_)
    · refine lv_aload_n hx hb dX7_byteAt_16 rfl (lv_at hl 0 rfl) ?_
      refine t_get (D := D) (L := L) (f := f) (ci := 7) (v := .ref (g 30)) (C := RX7) (T := TX7) (N := 2) hx hb hts (by decide +kernel) hown hK.1 hP (gm_11 hG) fg_3 rfl 0 (by decide) (hts (.fieldLink RX7 9 "JugglingHall$Tape" "bytes" "[I") (by decide +kernel)) (fun _ h9 => h9) rfl dX7_byteAt_17 ?_
      refine lv_iload_n hx hb dX7_byteAt_20 rfl (lv_at hl 1 rfl) ?_
      obtain ⟨c_5, fg_5, iv0_5⟩ := op_30 hI (gm_30 hG) (gs_30 hG)
      refine t_iald (L := L) (f := f) (y := c_5) (u := x.toInt) hx hb hK.1 hP (gm_30 hG) 0 fg_5 rfl dX7_byteAt_21 (rfl) (by subst hj1; omega) (fun z_6 q_6 e_6 => ?_)
      have a1_6 : 0 ≤ z_6.toInt ∧ z_6.toInt ≤ 255 := by rw [q_6]; exact iv0_5 x.toInt (by subst hj1; omega) (by subst hj1; omega)
      exact rp_iret hx hb hr hlocks hS (⟨show -1 ≤ z_6.toInt ∧ z_6.toInt ≤ 255 from (by first | assumption | omega | (subst hj1; omega)), show z_6.toInt = sE cb n9 x.toInt from (by
        have h9 := TpC_at (c := cb) hTp fg_3
        rw [q_6, TpC_c hTp fg_5]
        unfold sE
        rw [if_pos (by subst hj1; omega)])⟩) hQ dX7_byteAt_22
    · refine lv_iconst (v := (-1)) hx hb dX7_byteAt_12 (by decide) ?_
      refine lv_goto (tgt := 22) hx hb dX7_byteAt_13 (by decide) ?_
      have hz_7 : (-1 : Int32).toInt = (-1) := by decide
      exact rp_iret hx hb hr hlocks hS (⟨show -1 ≤ (-1 : Int32).toInt ∧ (-1 : Int32).toInt ≤ 255 from (by first | assumption | omega | (subst hj1; omega)), show (-1 : Int32).toInt = sE cb n9 x.toInt from (by
        have h9 := TpC_at (c := cb) hTp fg_3
        unfold sE
        rw [if_neg (by subst hj1; omega)]; decide)⟩) hQ dX7_byteAt_22
set_option maxRecDepth 100000 in
set_option maxHeartbeats 4000000 in
theorem t_X8_spellsm (l : Launch) (D : va_G) (cI cR cM : ClassId) (sz : Nat) {jn : Nat} {g : Nat → Nat} {L : List Nat} {S : Sg} {f : Nat → va_E} {x y : Int32} {i : Nat} {adK adV : Nat → Nat} {B0 : Nat} {cb : Nat → Int32} {n9 : Int} (hj : 1 ≤ jn ∧ jn ≤ 3) (hG : SG g L S) (hI : IN jn cI cR cM g L S f) (hB : ∀ a, a ∈ L → B0 ≤ a) (hj1 : jn = 1) (hi8 : i < 8) (hx0 : 0 ≤ x.toInt ∧ x.toInt ≤ 1000 ∧ 0 ≤ y.toInt ∧ y.toInt ≤ 1000) (hTp : TpC cI g f cb n9) : Met l yX8_spells wsX8_spells ({ frames := 4, cells := 0, slots := 0, locals := 85 }) (P0S D cI cR cM [.ref (g 14), .ref (adK i), .int x, .int y] sz (va_pl L f) adK adV B0) (QP (fun r => (Hd ((r.toInt = 1 ∧ SpW (sE cb n9) i x.toInt y.toInt) ∨ (r.toInt = 0 ∧ ¬ SpW (sE cb n9) i x.toInt y.toInt))) ∧ (r.toInt = 0 ∨ r.toInt = 1)) sz) 0 0 (va_A [] sz) := by
  refine goS (cc := cX8_spells) (maxL := 5) (ret := (some .boolean)) (by decide +kernel) rfl (Nat.le_of_ble_eq_true rfl) ?_
  intro p e s m below meth c ls args Q hQ hsz hx hb hr hml hts hown hlocks hnm hP hK hD hl hST
  subst hsz
  have hS : va_S (va_A [] s.heap.size) s.heap s.heap [] := va_S.rf
  have hA : ∀ q, s.heap.size ≤ q → va_A [] s.heap.size q := fun q h => Or.inr h
  have hAB : ∀ q, va_A [] s.heap.size q → B0 ≤ q := fun q h => by
    rcases h with ⟨k, e9, h⟩ | h
    · simp at h
    · exact Nat.le_trans hST.1 h
  have hV := hST.2.1.narrow hAB
  have hZ9 := hST.2.2.2.1.narrow hAB
  have hQ9 := hST.2.2.2.2.narrow hAB
  have hl : lv_has ls 5 [(0, .ref (g 14)), (1, .ref (adK i)), (2, .int x), (3, .int y)] := hl
  refine lv_iload_n hx hb dX8_spells_0 rfl (lv_at hl 3 rfl) ?_
  refine lv_iload_n hx hb dX8_spells_1 rfl (lv_at hl 2 rfl) ?_
  refine a_isub (u := y.toInt) (v := x.toInt) hx hb dX8_spells_2 (rfl) (rfl) (by subst hj1; omega) (fun z_1 e_1 => ?_)
  refine lv_aload_n hx hb dX8_spells_3 rfl (lv_at hl 1 rfl) ?_
  refine roP (va_runV (As := []) (rest := [.int z_1]) ⟨hx, hb, hml, hown, hts⟩ (t_J0_length_8abf5 l D cI cR cM _  (i := i)   (by first | assumption | omega | (subst hj1; omega))) (cwV 0 hts gX8_spells_J0_length_8abf5 rfl rfl rfl (by decide +kernel) ⟨Nat.le_of_ble_eq_true rfl, Nat.le_of_ble_eq_true rfl⟩) (pre_SV hK hST hS hAB hV hi8) rfl rfl hl.1 rfl (lv_room (Nat.le_of_ble_eq_true rfl)) dX8_spells_4 ⟨Nat.le_of_ble_eq_true rfl, Nat.le_of_ble_eq_true rfl⟩) hS hA hP (fun r_2 H locs hw hP hS => ?_)
  obtain ⟨h_2, h11_2⟩ : (r_2.toInt = (lenS.getD i 0 : Nat)) ∧ (lenS.getD i 0 ≤ 11) := hw
  refine a_icmp_eq (u := (y.toInt - x.toInt)) (v := r_2.toInt) (tgt := 12) hx hb dX8_spells_7 (by decide) (e_1) (rfl) (fun c_3 => ?_) (fun c_3 => ?_)
  · refine lv_iconst (v := 0) hx hb dX8_spells_12 (by decide) ?_
    refine lv_istore (lv' := [(4, .int 0), (0, .ref (g 14)), (1, .ref (adK i)), (2, .int x), (3, .int y)]) hx hb dX8_spells_13 hl (by decide) rfl (fun ls hl => ?_)
    have loop15 : ∀ (ddloop15 : Nat) (ii : Int32) (H : Heap) (locs : List Loc) (ls : Array Slot), (100 - ii.toInt).toNat < ddloop15 → (0 ≤ ii.toInt ∧ ii.toInt ≤ (lenS.getD i 0 : Nat)) → (∀ k9 : Nat, (k9 : Int) < ii.toInt → sE cb n9 (x.toInt + (k9 : Int)) = ((bytS.getD i []).getD k9 0).toInt) → va_P D vwCl (va_pl L f) H → va_S (va_A [] s.heap.size) s.heap H locs → lv_has ls 5 [(0, .ref (g 14)), (1, .ref (adK i)), (2, .int x), (3, .int y), (4, .int ii)] → W p l e ({ frames := 4, cells := 0, slots := 0, locals := 85 }) s m args below meth c H locs (0) (0) Q (F0 m 15 ls []) := by
      intro ddloop15
      induction ddloop15 with
      | zero =>
        intro ii H locs ls hdd
        exact absurd hdd (Nat.not_lt_zero _)
      | succ ddloop15 ih15 =>
        intro ii H locs ls hdd hi hsp hP hS hl
        refine lv_iload hx hb dX8_spells_15 (lv_at hl 4 rfl) ?_
        refine lv_aload_n hx hb dX8_spells_17 rfl (lv_at hl 1 rfl) ?_
        refine roP (va_runV (As := []) (rest := [.int ii]) ⟨hx, hb, hml, hown, hts⟩ (t_J0_length_8abf5 l D cI cR cM _  (i := i)   (by first | assumption | omega | (subst hj1; omega))) (cwV 0 hts gX8_spells_J0_length_8abf5 rfl rfl rfl (by decide +kernel) ⟨Nat.le_of_ble_eq_true rfl, Nat.le_of_ble_eq_true rfl⟩) (pre_SV hK hST hS hAB hV hi8) rfl rfl hl.1 rfl (lv_room (Nat.le_of_ble_eq_true rfl)) dX8_spells_18 ⟨Nat.le_of_ble_eq_true rfl, Nat.le_of_ble_eq_true rfl⟩) hS hA hP (fun r_5 H locs hw hP hS => ?_)
        obtain ⟨h_5, h11_5⟩ : (r_5.toInt = (lenS.getD i 0 : Nat)) ∧ (lenS.getD i 0 ≤ 11) := hw
        refine a_icmp_ge (u := ii.toInt) (v := r_5.toInt) (tgt := 52) hx hb dX8_spells_21 (by decide) (rfl) (rfl) (fun c_6 => ?_) (fun c_6 => ?_)
        · refine lv_iconst (v := 1) hx hb dX8_spells_52 (by decide) ?_
          have hz_7 : (1 : Int32).toInt = 1 := by decide
          exact rp_zret hx hb hr hlocks hS (by first | exact Or.inl rfl | exact Or.inr rfl) (⟨show Hd (((1 : Int32).toInt = 1 ∧ SpW (sE cb n9) i x.toInt y.toInt) ∨ ((1 : Int32).toInt = 0 ∧ ¬ SpW (sE cb n9) i x.toInt y.toInt)) from (Or.inl ⟨rfl, by omega, fun k9 h9 => hsp k9 (by subst hj1; omega)⟩), show (1 : Int32).toInt = 0 ∨ (1 : Int32).toInt = 1 from (by first | assumption | omega | (subst hj1; omega))⟩) hQ dX8_spells_53
        · refine lv_aload_n hx hb dX8_spells_24 rfl (lv_at hl 0 rfl) ?_
          obtain ⟨cnt_8, nx_8, kd_8, vl_8, st_8, ls_8, fg_8, iv0_8, iv1_8, iv2_8⟩ := op_14 hI (gm_14 hG) (gs_14 hG)
          refine t_get (D := D) (L := L) (f := f) (ci := 8) (v := .ref (g 11)) (C := RX8) (T := TX8) (N := 10) hx hb hts (by decide +kernel) hown hK.1 hP (gm_14 hG) fg_8 rfl 0 (by decide) (hts (.fieldLink RX8 21 "JugglingHall$Tokens" "tape" "LJugglingHall$Tape;") (by decide +kernel)) (fun _ h9 => h9) rfl dX8_spells_25 ?_
          refine lv_iload_n hx hb dX8_spells_28 rfl (lv_at hl 2 rfl) ?_
          refine lv_iload hx hb dX8_spells_29 (lv_at hl 4 rfl) ?_
          refine a_iadd (u := x.toInt) (v := ii.toInt) hx hb dX8_spells_31 (rfl) (rfl) (by subst hj1; omega) (fun z_9 e_9 => ?_)
          obtain ⟨len_10, fg_10, iv0_10, iv1_10⟩ := op_11 hI (gm_11 hG) (gs_11 hG)
          refine roP (va_runV (As := [.int z_9]) (rest := []) ⟨hx, hb, hml, hown, hts⟩ (t_X7_byteAtm l D cI cR cM _ (cb := cb) (n9 := n9)  hj hG hI  (by first | assumption | omega | (subst hj1; omega)) (by first | assumption | omega | (subst hj1; omega))) (cwV 1 hts gX8_spells_X7_byteAt rfl rfl rfl (by decide +kernel) ⟨Nat.le_of_ble_eq_true rfl, Nat.le_of_ble_eq_true rfl⟩) (pre_T hK hP hD (gm_11 hG) fg_10 rfl) rfl rfl hl.1 rfl (lv_room (Nat.le_of_ble_eq_true rfl)) dX8_spells_32 ⟨Nat.le_of_ble_eq_true rfl, Nat.le_of_ble_eq_true rfl⟩) hS hA hP (fun r_11 H locs hw hP hS => ?_)
          obtain ⟨h_11, he_11⟩ : (-1 ≤ r_11.toInt ∧ r_11.toInt ≤ 255) ∧ (r_11.toInt = sE cb n9 z_9.toInt) := hw
          refine lv_aload_n hx hb dX8_spells_35 rfl (lv_at hl 1 rfl) ?_
          refine lv_iload hx hb dX8_spells_36 (lv_at hl 4 rfl) ?_
          refine roP (va_runV (As := [.int ii]) (rest := [.int r_11]) ⟨hx, hb, hml, hown, hts⟩ (t_J0_charAtm l D cI cR cM _  (i := i)   (by first | assumption | omega | (subst hj1; omega)) (by first | assumption | omega | (subst hj1; omega))) (cwV 1 hts gX8_spells_J0_charAt_5068e rfl rfl rfl (by decide +kernel) ⟨Nat.le_of_ble_eq_true rfl, Nat.le_of_ble_eq_true rfl⟩) (pre_SV hK hST hS hAB hV hi8) rfl rfl hl.1 rfl (lv_room (Nat.le_of_ble_eq_true rfl)) dX8_spells_38 ⟨Nat.le_of_ble_eq_true rfl, Nat.le_of_ble_eq_true rfl⟩) hS hA hP (fun r_12 H locs hw hP hS => ?_)
          obtain ⟨hn_12, he_12⟩ : (narrow .char (.int r_12) = .int r_12) ∧ (r_12.toInt = ((bytS.getD i []).getD ii.toInt.toNat 0).toInt) := hw
          refine a_icmp_eq (u := r_11.toInt) (v := r_12.toInt) (tgt := 46) hx hb dX8_spells_41 (by decide) (rfl) (rfl) (fun c_13 => ?_) (fun c_13 => ?_)
          · obtain ⟨z_14, q_14, e_14⟩ := i_inc (a := ii.toInt) (1) (rfl) (by decide) (by subst hj1; omega) (by subst hj1; omega)
            refine lv_iinc (v := z_14) (lv' := [(4, .int z_14), (0, .ref (g 14)), (1, .ref (adK i)), (2, .int x), (3, .int y)]) hx hb dX8_spells_46 hl (k := 4) rfl q_14 (by decide) rfl (fun ls hl => ?_)
            refine lv_goto (tgt := 15) hx hb dX8_spells_49 (by decide) ?_
            exact ih15 z_14 _ _ _ (by subst hj1; omega) (by first | assumption | omega | (subst hj1; omega)) (fun k9 h9 => by
              by_cases q9 : (k9 : Int) = ii.toInt
              · rw [show x.toInt + (k9 : Int) = z_9.toInt by omega, ← he_11, show k9 = ii.toInt.toNat by omega, ← he_12]; omega
              · exact hsp k9 (by subst hj1; omega)) hP hS (lv_sub hl [1, 2, 3, 4, 0] rfl)
          · refine lv_iconst (v := 0) hx hb dX8_spells_44 (by decide) ?_
            have hz_15 : (0 : Int32).toInt = 0 := by decide
            exact rp_zret hx hb hr hlocks hS (by first | exact Or.inl rfl | exact Or.inr rfl) (⟨show Hd (((0 : Int32).toInt = 1 ∧ SpW (sE cb n9) i x.toInt y.toInt) ∨ ((0 : Int32).toInt = 0 ∧ ¬ SpW (sE cb n9) i x.toInt y.toInt)) from (Or.inr ⟨rfl, fun q9 => by
              have h7 := q9.2 ii.toInt.toNat (by subst hj1; omega)
              rw [show x.toInt + ((ii.toInt.toNat : Nat) : Int) = z_9.toInt by omega] at h7
              omega⟩), show (0 : Int32).toInt = 0 ∨ (0 : Int32).toInt = 1 from (by first | assumption | omega | (subst hj1; omega))⟩) hQ dX8_spells_45
    have hz_16 : (0 : Int32).toInt = 0 := by decide
    exact loop15 ((100 - (0 : Int32).toInt).toNat + 1) (0 : Int32) _ _ _ (by subst hj1; omega) (by first | assumption | omega | (subst hj1; omega)) (fun k9 h9 => absurd h9 (by subst hj1; omega)) hP hS (lv_sub hl [1, 2, 3, 4, 0] rfl)
  · refine lv_iconst (v := 0) hx hb dX8_spells_10 (by decide) ?_
    have hz_17 : (0 : Int32).toInt = 0 := by decide
    exact rp_zret hx hb hr hlocks hS (by first | exact Or.inl rfl | exact Or.inr rfl) (⟨show Hd (((0 : Int32).toInt = 1 ∧ SpW (sE cb n9) i x.toInt y.toInt) ∨ ((0 : Int32).toInt = 0 ∧ ¬ SpW (sE cb n9) i x.toInt y.toInt)) from (Or.inr ⟨rfl, fun q9 => by have h7 := q9.1; omega⟩), show (0 : Int32).toInt = 0 ∨ (0 : Int32).toInt = 1 from (by first | assumption | omega | (subst hj1; omega))⟩) hQ dX8_spells_11
