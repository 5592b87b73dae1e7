/-! the reference's small methods -/
noncomputable def z_b (P : Prop) : Int32 := @ite _ P (Classical.propDecidable P) 1 0
theorem z_b_t {P : Prop} (h : P) : z_b P = 1 := by unfold z_b; exact if_pos h
theorem z_b_f {P : Prop} (h : ¬ P) : z_b P = 0 := by unfold z_b; exact if_neg h
theorem z_b_01 (P : Prop) : z_b P = 0 ∨ z_b P = 1 := by
  by_cases h : P
  · exact Or.inr (z_b_t h)
  · exact Or.inl (z_b_f h)
theorem z_b_0 {P : Prop} (h : z_b P = 0) : ¬ P := fun q => by rw [z_b_t q] at h; exact absurd h (by decide)
theorem z_b_1 {P : Prop} (h : ¬ z_b P = 0) : P := by
  by_cases q : P
  · exact q
  · exact absurd (z_b_f q) h
theorem z_b_c {P Q : Prop} (h : P ↔ Q) : z_b P = z_b Q := by
  by_cases q : P
  · rw [z_b_t q, z_b_t (h.1 q)]
  · rw [z_b_f q, z_b_f (fun z => q (h.2 z))]
noncomputable def z_go (P1 P2 P3 : Prop) : Int32 := @ite _ P1 (Classical.propDecidable P1) (@ite _ P2 (Classical.propDecidable P2) (@ite _ P3 (Classical.propDecidable P3) 0 3) 2) 1
theorem z_go_0 {P1 P2 P3 : Prop} (h1 : P1) (h2 : P2) (h3 : P3) : z_go P1 P2 P3 = 0 := by
  unfold z_go; rw [if_pos h1, if_pos h2, if_pos h3]
theorem z_go_1 {P1 P2 P3 : Prop} (h1 : ¬ P1) : z_go P1 P2 P3 = 1 := by
  unfold z_go; rw [if_neg h1]
theorem z_go_2 {P1 P2 P3 : Prop} (h1 : P1) (h2 : ¬ P2) : z_go P1 P2 P3 = 2 := by
  unfold z_go; rw [if_pos h1, if_neg h2]
theorem z_go_3 {P1 P2 P3 : Prop} (h1 : P1) (h2 : P2) (h3 : ¬ P3) : z_go P1 P2 P3 = 3 := by
  unfold z_go; rw [if_pos h1, if_pos h2, if_neg h3]
theorem z_rg_iff {x : Int32} {n : Nat} (hn : n < 2 ^ 31) : (0 ≤ x ∧ x ≤ nI n - 1) ↔ z_rg x n := by
  constructor
  · rintro ⟨h1, h2⟩
    have h1' := Int32.le_iff_toInt_le.1 h1
    have h2' := Int32.le_iff_toInt_le.1 h2
    have e0 : (0 : Int32).toInt = 0 := rfl
    by_cases hz : n = 0
    · subst hz
      have e1 : (nI 0 - 1 : Int32).toInt = -1 := by decide
      omega
    · obtain ⟨k, rfl⟩ : ∃ k, n = k + 1 := ⟨n - 1, by omega⟩
      have e : nI (k + 1) - 1 = nI k := by rw [← nI_1, Int32.add_sub_cancel]
      rw [e, nI_toInt (by omega)] at h2'
      exact z_rg_in' hn (Int32.not_lt.mpr h1) (Int32.lt_iff_toInt_lt.2 (by rw [nI_toInt hn]; omega))
  · rintro ⟨j, hj, rfl⟩
    refine ⟨Int32.not_lt.mp (nI_pos (by omega)), ?_⟩
    obtain ⟨k, rfl⟩ : ∃ k, n = k + 1 := ⟨n - 1, by omega⟩
    have e : nI (k + 1) - 1 = nI k := by rw [← nI_1, Int32.add_sub_cancel]
    rw [e]
    exact (nI_leI (by omega) (by omega)).2 (by omega)
section MH
variable {G : z_G} {F : Nat → Prop} {A : z_TA} {M : z_TM} {w : z_W}
theorem mX6_in (x a b : Int32) : z_M G zX6_in 0 [.int x, .int a, .int b] w 0 0 (z_rp (.int (z_b (a ≤ x ∧ x ≤ b))) w) z_nx := by
  refine z_M.of (by decide +kernel) rfl (by intro v hv; simp only [List.mem_cons, List.not_mem_nil, or_false] at hv; rcases hv with rfl | rfl | rfl <;> first | rfl | exact z_isr_cat (z_isr_rf _)) (Nat.le_of_ble_eq_true rfl) ?_
  show z_E _ zX6_in _ _ 0 [some (.int x), some (.int a), some (.int b)] [] _ _ _
  refine z_iload_n (pc := 0) dX6_in_0 rfl ?_
  refine z_iload_n (pc := 1) dX6_in_1 rfl ?_
  refine z_icmp_lt (pc := 2) (tgt := 14) dX6_in_2 (by decide) (fun hc => ?_) (fun hc => ?_)
  · refine z_iconst_0 (pc := 14) dX6_in_14 ?_
    refine z_zret (pc := 15) dX6_in_15 rfl (Or.inl rfl ) ( ⟨by rw [z_b_f (fun h => Int32.not_lt.mpr h.1 hc)], rfl⟩)
  · refine z_iload_n (pc := 5) dX6_in_5 rfl ?_
    refine z_iload_n (pc := 6) dX6_in_6 rfl ?_
    refine z_icmp_gt (pc := 7) (tgt := 14) dX6_in_7 (by decide) (fun hd => ?_) (fun hd => ?_)
    · refine z_iconst_0 (pc := 14) dX6_in_14 ?_
      refine z_zret (pc := 15) dX6_in_15 rfl (Or.inl rfl ) ( ⟨by rw [z_b_f (fun h => Int32.not_lt.mpr h.2 hd)], rfl⟩)
    · refine z_iconst_1 (pc := 10) dX6_in_10 ?_
      refine z_goto (pc := 11) (tgt := 15) dX6_in_11 (by decide) ?_
      refine z_zret (pc := 15) dX6_in_15 rfl (Or.inr rfl ) ( ⟨by rw [z_b_t ⟨Int32.not_lt.mp hc, Int32.not_lt.mp hd⟩], rfl⟩)
theorem mX6_isPosition (x : Int32) : z_M G zX6_isPosition 1 [.int x] w 0 0 (z_rp (.int (z_b (z_rg x 1000))) w) z_nx := by
  refine z_M.of (by decide +kernel) rfl (by intro v hv; simp only [List.mem_cons, List.not_mem_nil, or_false] at hv; rcases hv with rfl <;> first | rfl | exact z_isr_cat (z_isr_rf _)) (Nat.le_of_ble_eq_true rfl) ?_
  show z_E _ zX6_isPosition _ _ 0 [some (.int x)] [] _ _ _
  refine z_iload_n (pc := 0) dX6_isPosition_0 rfl ?_
  refine z_iconst_0 (pc := 1) dX6_isPosition_1 ?_
  refine z_sipush_999 (pc := 2) dX6_isPosition_2 ?_
  refine z_callSp (pc := 5) (mX6_in (G := G) x 0 999) dX6_isPosition_5 cwX6_63 okX6_in rfl (by omega) rfl (Nat.le_of_ble_eq_true rfl) ?_
  refine z_zret (pc := 8) dX6_isPosition_8 rfl (z_b_01 _ ) ( ⟨by rw [z_b_c (z_rg_iff (x := x) (n := 1000) (by decide)).symm]; rfl, rfl⟩)
theorem mX6_isMove (x : Int32) : z_M G zX6_isMove 1 [.int x] w 0 0 (z_rp (.int (z_b (z_rg x 4))) w) z_nx := by
  refine z_M.of (by decide +kernel) rfl (by intro v hv; simp only [List.mem_cons, List.not_mem_nil, or_false] at hv; rcases hv with rfl <;> first | rfl | exact z_isr_cat (z_isr_rf _)) (Nat.le_of_ble_eq_true rfl) ?_
  show z_E _ zX6_isMove _ _ 0 [some (.int x)] [] _ _ _
  refine z_iload_n (pc := 0) dX6_isMove_0 rfl ?_
  refine z_iconst_0 (pc := 1) dX6_isMove_1 ?_
  refine z_iconst_3 (pc := 2) dX6_isMove_2 ?_
  refine z_callSp (pc := 3) (mX6_in (G := G) x 0 3) dX6_isMove_3 cwX6_63 okX6_in rfl (by omega) rfl (Nat.le_of_ble_eq_true rfl) ?_
  refine z_zret (pc := 6) dX6_isMove_6 rfl (z_b_01 _ ) ( ⟨by rw [z_b_c (z_rg_iff (x := x) (n := 4) (by decide)).symm]; rfl, rfl⟩)
theorem mX6_isPlayer (hM : z_Mo G F A M w) {n : Nat} (h0 : M 0 0 = nI n) (hn : n < 2 ^ 31) (x : Int32) : z_M G zX6_isPlayer 1 [.ref (A 22 0 0), .int x] w 0 0 (z_rp (.int (z_b (z_rg x n))) w) z_nx := by
  refine z_M.of (by decide +kernel) rfl (by intro v hv; simp only [List.mem_cons, List.not_mem_nil, or_false] at hv; rcases hv with rfl | rfl <;> first | rfl | exact z_isr_cat (z_isr_rf _)) (Nat.le_of_ble_eq_true rfl) ?_
  show z_E _ zX6_isPlayer _ _ 0 [some (.ref (A 22 0 0)), some (.int x)] [] _ _ _
  refine z_iload_n (pc := 0) dX6_isPlayer_0 rfl ?_
  refine z_iconst_0 (pc := 1) dX6_isPlayer_1 ?_
  refine z_aload_n (pc := 2) dX6_isPlayer_2 rfl (by first | rfl | exact z_isr_rf _) ?_
  refine gfX6_67 (pc := 3) rfl dX6_isPlayer_3 (hM.k22) rfl ?_
  refine z_iconst_1 (pc := 6) dX6_isPlayer_6 ?_
  refine z_isub (pc := 7) dX6_isPlayer_7 ?_
  refine z_callSp (pc := 8) (mX6_in (G := G) x 0 (M 0 0 - 1)) dX6_isPlayer_8 cwX6_63 okX6_in rfl (by omega) rfl (Nat.le_of_ble_eq_true rfl) ?_
  refine z_zret (pc := 11) dX6_isPlayer_11 rfl (z_b_01 _ ) ( ⟨by rw [z_b_c (z_rg_iff (x := x) hn).symm, h0], rfl⟩)
theorem mX6_isPuzzle (hM : z_Mo G F A M w) {n : Nat} (h0 : M 13 0 = nI n) (hn : n < 2 ^ 31) (x : Int32) : z_M G zX6_isPuzzle 1 [.ref (A 22 0 0), .int x] w 0 0 (z_rp (.int (z_b (z_rg x n))) w) z_nx := by
  refine z_M.of (by decide +kernel) rfl (by intro v hv; simp only [List.mem_cons, List.not_mem_nil, or_false] at hv; rcases hv with rfl | rfl <;> first | rfl | exact z_isr_cat (z_isr_rf _)) (Nat.le_of_ble_eq_true rfl) ?_
  show z_E _ zX6_isPuzzle _ _ 0 [some (.ref (A 22 0 0)), some (.int x)] [] _ _ _
  refine z_iload_n (pc := 0) dX6_isPuzzle_0 rfl ?_
  refine z_iconst_0 (pc := 1) dX6_isPuzzle_1 ?_
  refine z_aload_n (pc := 2) dX6_isPuzzle_2 rfl (by first | rfl | exact z_isr_rf _) ?_
  refine gfX6_70 (pc := 3) rfl dX6_isPuzzle_3 (hM.k22) rfl ?_
  refine z_iconst_1 (pc := 6) dX6_isPuzzle_6 ?_
  refine z_isub (pc := 7) dX6_isPuzzle_7 ?_
  refine z_callSp (pc := 8) (mX6_in (G := G) x 0 (M 13 0 - 1)) dX6_isPuzzle_8 cwX6_63 okX6_in rfl (by omega) rfl (Nat.le_of_ble_eq_true rfl) ?_
  refine z_zret (pc := 11) dX6_isPuzzle_11 rfl (z_b_01 _ ) ( ⟨by rw [z_b_c (z_rg_iff (x := x) hn).symm, h0], rfl⟩)
theorem mX6_thrown (hM : z_Mo G F A M w) : z_M G zX6_thrown 0 [.ref (A 22 0 0)] w 0 0 (z_rp (.int (M 21 0)) w) z_nx := by
  refine z_M.of (by decide +kernel) rfl (by intro v hv; simp only [List.mem_cons, List.not_mem_nil, or_false] at hv; rcases hv with rfl <;> first | rfl | exact z_isr_cat (z_isr_rf _)) (Nat.le_of_ble_eq_true rfl) ?_
  show z_E _ zX6_thrown _ _ 0 [some (.ref (A 22 0 0))] [] _ _ _
  refine z_aload_n (pc := 0) dX6_thrown_0 rfl (by first | rfl | exact z_isr_rf _) ?_
  refine gfX6_59 (pc := 1) rfl dX6_thrown_1 (hM.k22) rfl ?_
  refine z_iret (pc := 4) dX6_thrown_4 rfl (⟨rfl, rfl⟩)
theorem mX6_told (hM : z_Mo G F A M w) (x : Int32) : z_M G zX6_told 0 [.ref (A 22 0 0), .int x] w 0 0 (z_sm G F A (z_sM M 21 0 0) w (some (.int x))) z_nx := by
  refine z_M.of (by decide +kernel) rfl (by intro v hv; simp only [List.mem_cons, List.not_mem_nil, or_false] at hv; rcases hv with rfl | rfl <;> first | rfl | exact z_isr_cat (z_isr_rf _)) (Nat.le_of_ble_eq_true rfl) ?_
  show z_E _ zX6_told _ _ 0 [some (.ref (A 22 0 0)), some (.int x)] [] _ _ _
  refine z_aload_n (pc := 0) dX6_told_0 rfl (by first | rfl | exact z_isr_rf _) ?_
  refine z_iconst_0 (pc := 1) dX6_told_1 ?_
  refine pfX6_59 (pc := 2) rfl dX6_told_2 (hM.k22) (Nat.le_of_ble_eq_true rfl) ?_
  refine z_genM (hM.p21 0) (fun w2 hM2 hf2 => ?_)
  refine z_iload_n (pc := 5) dX6_told_5 rfl ?_
  refine z_iret (pc := 6) dX6_told_6 rfl (⟨rfl, hM2, hf2⟩)
theorem mX6_goes (hM : z_Mo G F A M w) {a1 a2 a3 : Int32} {P1 P2 P3 : Prop} (h1 : a1 = z_b P1) (h2 : a2 = z_b P2) (h3 : a3 = z_b P3) : z_M G zX6_goes 0 [.ref (A 22 0 0), .int a1, .int a2, .int a3] w 0 0 (z_sm G F A (z_sM M 21 0 (z_go P1 P2 P3)) w (some (.int (z_b (P1 ∧ P2 ∧ P3))))) z_nx := by
  subst h1 h2 h3
  refine z_M.of (by decide +kernel) rfl (by intro v hv; simp only [List.mem_cons, List.not_mem_nil, or_false] at hv; rcases hv with rfl | rfl | rfl | rfl <;> first | rfl | exact z_isr_cat (z_isr_rf _)) (Nat.le_of_ble_eq_true rfl) ?_
  show z_E _ zX6_goes _ _ 0 [some (.ref (A 22 0 0)), some (.int (z_b P1)), some (.int (z_b P2)), some (.int (z_b P3))] [] _ _ _
  have fin : ∀ r : Int32, r = z_go P1 P2 P3 → (r = 0 ↔ (P1 ∧ P2 ∧ P3)) → z_E G zX6_goes 0 (z_mq G (z_sm G F A (z_sM M 21 0 (z_go P1 P2 P3)) w (some (.int (z_b (P1 ∧ P2 ∧ P3))))) z_nx) 26 [some (.ref (A 22 0 0)), some (.int (z_b P1)), some (.int (z_b P2)), some (.int (z_b P3))] [.int r, .ref (A 22 0 0)] w 0 0 := by
    intro r hr hi
    refine pfX6_59 (pc := 26) rfl dX6_goes_26 (hM.k22) (Nat.le_of_ble_eq_true rfl) ?_
    refine z_genM (hM.p21 r) (fun w2 hM2 hf2 => ?_)
    refine z_aload_n (pc := 29) dX6_goes_29 rfl (by first | rfl | exact z_isr_rf _) ?_
    refine gfX6_59 (pc := 30) rfl dX6_goes_30 (hM2.k22) rfl ?_
    rw [z_sM_s, z_upd_s]
    refine z_if_ne (pc := 33) (tgt := 40) dX6_goes_33 (by decide) (fun hc => ?_) (fun hc => ?_)
    · refine z_iconst_0 (pc := 40) dX6_goes_40 ?_
      refine z_zret (pc := 41) dX6_goes_41 rfl (Or.inl rfl ) ( ⟨by rw [z_b_f (fun z => hc (hi.2 z))], hr ▸ hM2, hf2⟩)
    · refine z_iconst_1 (pc := 36) dX6_goes_36 ?_
      refine z_goto (pc := 37) (tgt := 41) dX6_goes_37 (by decide) ?_
      refine z_zret (pc := 41) dX6_goes_41 rfl (Or.inr rfl ) ( ⟨by rw [z_b_t (hi.1 hc)], hr ▸ hM2, hf2⟩)
  refine z_aload_n (pc := 0) dX6_goes_0 rfl (by first | rfl | exact z_isr_rf _) ?_
  refine z_iload_n (pc := 1) dX6_goes_1 rfl ?_
  refine z_if_ne (pc := 2) (tgt := 9) dX6_goes_2 (by decide) (fun hc => ?_) (fun hc => ?_)
  · refine z_iload_n (pc := 9) dX6_goes_9 rfl ?_
    have q1 := z_b_1 hc
    refine z_if_ne (pc := 10) (tgt := 17) dX6_goes_10 (by decide) (fun hd => ?_) (fun hd => ?_)
    · refine z_iload_n (pc := 17) dX6_goes_17 rfl ?_
      have q2 := z_b_1 hd
      refine z_if_ne (pc := 18) (tgt := 25) dX6_goes_18 (by decide) (fun he => ?_) (fun he => ?_)
      · refine z_iconst_0 (pc := 25) dX6_goes_25 ?_
        exact fin 0 (z_go_0 q1 q2 (z_b_1 he)).symm (by simp [q1, q2, z_b_1 he])
      · refine z_iconst_3 (pc := 21) dX6_goes_21 ?_
        refine z_goto (pc := 22) (tgt := 26) dX6_goes_22 (by decide) ?_
        have q3 := z_b_0 he
        exact fin 3 (z_go_3 q1 q2 q3).symm (by simp [q3])
    · refine z_iconst_2 (pc := 13) dX6_goes_13 ?_
      refine z_goto (pc := 14) (tgt := 26) dX6_goes_14 (by decide) ?_
      have q2 := z_b_0 hd
      exact fin 2 (z_go_2 q1 q2).symm (by simp [q2])
  · refine z_iconst_1 (pc := 5) dX6_goes_5 ?_
    refine z_goto (pc := 6) (tgt := 26) dX6_goes_6 (by decide) ?_
    have q1 := z_b_0 hc
    exact fin 1 (z_go_1 q1).symm (by simp [q1])
theorem mX6_ended (hM : z_Mo G F A M w) (h6 : M 6 0 = 0 ∨ M 6 0 = 1) : z_M G zX6_ended 0 [.ref (A 22 0 0)] w 0 0 (z_rp (.int (M 5 0 - M 6 0)) w) z_nx := by
  refine z_M.of (by decide +kernel) rfl (by intro v hv; simp only [List.mem_cons, List.not_mem_nil, or_false] at hv; rcases hv with rfl <;> first | rfl | exact z_isr_cat (z_isr_rf _)) (Nat.le_of_ble_eq_true rfl) ?_
  show z_E _ zX6_ended _ _ 0 [some (.ref (A 22 0 0))] [] _ _ _
  refine z_aload_n (pc := 0) dX6_ended_0 rfl (by first | rfl | exact z_isr_rf _) ?_
  refine gfX6_95 (pc := 1) rfl dX6_ended_1 (hM.k22) rfl ?_
  refine z_aload_n (pc := 4) dX6_ended_4 rfl (by first | rfl | exact z_isr_rf _) ?_
  refine gfX6_98 (pc := 5) rfl dX6_ended_5 (hM.k22) rfl ?_
  refine z_if_eq (pc := 8) (tgt := 15) dX6_ended_8 (by decide) (fun hc => ?_) (fun hc => ?_)
  · refine z_iconst_0 (pc := 15) dX6_ended_15 ?_
    refine z_isub (pc := 16) dX6_ended_16 ?_
    refine z_iret (pc := 17) dX6_ended_17 rfl (⟨by rw [hc], rfl⟩)
  · refine z_iconst_1 (pc := 11) dX6_ended_11 ?_
    refine z_goto (pc := 12) (tgt := 16) dX6_ended_12 (by decide) ?_
    refine z_isub (pc := 16) dX6_ended_16 ?_
    refine z_iret (pc := 17) dX6_ended_17 rfl (⟨by rw [h6.resolve_left hc], rfl⟩)
end MH

