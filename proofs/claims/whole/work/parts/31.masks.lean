/-! the reference's face: the calls that only ask -/
noncomputable def z_if {α : Type} (P : Prop) (a b : α) : α := @ite _ P (Classical.propDecidable P) a b
theorem z_if_t {α : Type} {P : Prop} {a b : α} (h : P) : z_if P a b = a := by unfold z_if; exact if_pos h
theorem z_if_f {α : Type} {P : Prop} {a b : α} (h : ¬ P) : z_if P a b = b := by unfold z_if; exact if_neg h
theorem z_nm (a b : Nat) : nI a * nI b = nI (a * b) := (Int32.ofNat_mul a b).symm
theorem z_tt : (1 : Int32) = z_b True := (z_b_t trivial).symm
theorem z_b_a {P : Prop} : z_b (P ∧ True ∧ True) = z_b P := z_b_c ⟨fun h => h.1, fun h => ⟨h, trivial, trivial⟩⟩
theorem z_b_a2 {P Q : Prop} : z_b (P ∧ Q ∧ True) = z_b (P ∧ Q) := z_b_c ⟨fun h => ⟨h.1, h.2.1⟩, fun h => ⟨h.1, h.2, trivial⟩⟩
theorem z_ln_no {x y : Int32} (h : z_ln x y) : (1 ≤ y ∧ y ≤ 6) ∧ ¬ x < 0 ∧ x < (1 : Int32) <<< ((2 * y) &&& 31) := by
  obtain ⟨l, n, h1, h2, h3, rfl, rfl⟩ := h
  have hp := z_p4 n (by omega)
  refine ⟨⟨(nI_leI (a := 1) (by decide) (by omega)).2 h1, (nI_leI (b := 6) (by omega) (by decide)).2 h2⟩, nI_pos (by omega), ?_⟩
  rw [z_shl n (by omega)]
  exact (nI_ltI (by omega) hp).2 h3
theorem z_ln_ye {y : Int32} (h : 1 ≤ y ∧ y ≤ 6) : ∃ n : Nat, 1 ≤ n ∧ n ≤ 6 ∧ y = nI n := by
  obtain ⟨j, hj, rfl⟩ := nI_of2 (M := 6) (n := 6) (by decide) (fun q => Int32.not_lt.mpr h.1 (Int32.lt_trans q (by decide))) h.2
  exact ⟨j, (nI_leI (a := 1) (by decide) (by omega)).1 h.1, hj, rfl⟩
section MA
variable {G : z_G} {F : Nat → Prop} {A : z_TA} {M : z_TM} {w : z_W}
theorem mX6_asks (hM : z_Mo G F A M w) (x y : Int32) : z_M G zX6_asks 1 [.ref (A 22 0 0), .int x, .int y] w 0 0 (z_sm G F A (z_sM M 21 0 (z_go (z_ln x y) True True)) w (some (.int (z_b (z_ln x y))))) z_nx := by
  refine z_M.of (by decide +kernel) rfl (by intro v hv; simp only [List.mem_cons, List.not_mem_nil, or_false] at hv; rcases hv with rfl | rfl | rfl <;> first | rfl | exact z_isr_cat (z_isr_rf _)) (Nat.le_of_ble_eq_true rfl) ?_
  show z_E _ zX6_asks _ _ 0 [some (.ref (A 22 0 0)), some (.int x), some (.int y)] [] _ _ _
  have fin : ∀ a : Int32, a = z_b (z_ln x y) → z_E G zX6_asks 1 (z_mq G (z_sm G F A (z_sM M 21 0 (z_go (z_ln x y) True True)) w (some (.int (z_b (z_ln x y))))) z_nx) 29 [some (.ref (A 22 0 0)), some (.int x), some (.int y)] [.int a, .ref (A 22 0 0)] w 0 0 := by
    intro a ha
    refine z_iconst_1 (pc := 29) dX6_asks_29 ?_
    refine z_iconst_1 (pc := 30) dX6_asks_30 ?_
    refine z_callV (pc := 31) (mX6_goes hM ha z_tt z_tt) dX6_asks_31 cwX6_91 okX6_goes rfl (hM.k22) rfl rfl (by omega) rfl (Nat.le_of_ble_eq_true rfl) (by omega) (by omega) (fun _ _ h => h.elim) (fun v wN hN => ?_)
    obtain ⟨rfl, hM2, hf2⟩ := hN
    rw [z_b_a]
    refine z_zret (pc := 34) dX6_asks_34 rfl (z_b_01 _ ) ( ⟨rfl, hM2, hf2⟩)
  refine z_aload_n (pc := 0) dX6_asks_0 rfl (by first | rfl | exact z_isr_rf _) ?_
  refine z_iload_n (pc := 1) dX6_asks_1 rfl ?_
  refine z_iconst_1 (pc := 2) dX6_asks_2 ?_
  refine z_bipush_6 (pc := 3) dX6_asks_3 ?_
  refine z_callSp (pc := 5) (mX6_in (G := G) y 1 6) dX6_asks_5 cwX6_63 okX6_in rfl (by omega) rfl (Nat.le_of_ble_eq_true rfl) ?_
  refine z_if_eq (pc := 8) (tgt := 28) dX6_asks_8 (by decide) (fun hc => ?_) (fun hc => ?_)
  · refine z_iconst_0 (pc := 28) dX6_asks_28 ?_
    exact fin 0 (z_b_f (fun h => z_b_0 hc (z_ln_no h).1)).symm
  · have hy := z_b_1 hc
    refine z_iload_n (pc := 11) dX6_asks_11 rfl ?_
    refine z_if_lt (pc := 12) (tgt := 28) dX6_asks_12 (by decide) (fun hd => ?_) (fun hd => ?_)
    · refine z_iconst_0 (pc := 28) dX6_asks_28 ?_
      exact fin 0 (z_b_f (fun h => (z_ln_no h).2.1 hd)).symm
    · refine z_iload_n (pc := 15) dX6_asks_15 rfl ?_
      refine z_iconst_1 (pc := 16) dX6_asks_16 ?_
      refine z_iconst_2 (pc := 17) dX6_asks_17 ?_
      refine z_iload_n (pc := 18) dX6_asks_18 rfl ?_
      refine z_imul (pc := 19) dX6_asks_19 ?_
      refine z_ishl (pc := 20) dX6_asks_20 ?_
      refine z_icmp_ge (pc := 21) (tgt := 28) dX6_asks_21 (by decide) (fun he => ?_) (fun he => ?_)
      · refine z_iconst_0 (pc := 28) dX6_asks_28 ?_
        exact fin 0 (z_b_f (fun h => Int32.not_lt.mpr he (z_ln_no h).2.2)).symm
      · refine z_iconst_1 (pc := 24) dX6_asks_24 ?_
        refine z_goto (pc := 25) (tgt := 29) dX6_asks_25 (by decide) ?_
        refine fin 1 (z_b_t ?_).symm
        obtain ⟨n, h1, h6, rfl⟩ := z_ln_ye hy
        rw [z_shl n (by omega)] at he
        obtain ⟨l, hl, rfl⟩ := z_rg_in' (z_p4 n (by omega)) hd (Int32.not_le.mp he)
        exact ⟨l, n, h1, h6, hl, rfl, rfl⟩

theorem mX6_results (hM : z_Mo G F A M w) (x y : Int32) : z_M G zX6_results 2 [.ref (A 22 0 0), .int x, .int y] w 0 0 (z_sm G F A (z_sM M 21 0 (z_go (z_ln x y) True True)) w (some (.int (z_if (z_ln x y) (M 16 (z_sh y.toNatClampNeg + x.toNatClampNeg)) 0)))) z_nx := by
  refine z_M.of (by decide +kernel) rfl (by intro v hv; simp only [List.mem_cons, List.not_mem_nil, or_false] at hv; rcases hv with rfl | rfl | rfl <;> first | rfl | exact z_isr_cat (z_isr_rf _)) (Nat.le_of_ble_eq_true rfl) ?_
  show z_E _ zX6_results _ _ 0 [some (.ref (A 22 0 0)), some (.int x), some (.int y)] [] _ _ _
  refine z_aload_n (pc := 0) dX6_results_0 rfl (by first | rfl | exact z_isr_rf _) ?_
  refine z_iload_n (pc := 1) dX6_results_1 rfl ?_
  refine z_iload_n (pc := 2) dX6_results_2 rfl ?_
  refine z_callV (pc := 3) (mX6_asks hM x y) dX6_results_3 cwX6_141 okX6_asks rfl (hM.k22) rfl rfl (by omega) rfl (Nat.le_of_ble_eq_true rfl) (by omega) (by omega) (fun _ _ h => h.elim) (fun v wN hN => ?_)
  obtain ⟨rfl, hM2, hf2⟩ := hN
  refine z_if_eq (pc := 6) (tgt := 23) dX6_results_6 (by decide) (fun hc => ?_) (fun hc => ?_)
  · refine z_iconst_0 (pc := 23) dX6_results_23 ?_
    refine z_iret (pc := 24) dX6_results_24 rfl (⟨by rw [z_if_f (z_b_0 hc)], hM2, hf2⟩)
  · have hln := z_b_1 hc
    have hln2 := hln
    obtain ⟨l, n, h1, h6, hl, rfl, rfl⟩ := hln2
    have hp := z_p4 n (by omega)
    have hs := z_sh_s n (by omega) h1
    refine z_aload_n (pc := 9) dX6_results_9 rfl (by first | rfl | exact z_isr_rf _) ?_
    refine gfX6_44 (pc := 10) rfl dX6_results_10 (hM2.k22) rfl ?_
    refine z_iload_n (pc := 13) dX6_results_13 rfl ?_
    refine z_callSp (pc := 14) (mX6_shorter (G := G) (n := n) (by omega) h1) dX6_results_14 cwX6_115 okX6_shorter rfl (by omega) rfl (Nat.le_of_ble_eq_true rfl) ?_
    refine z_iload_n (pc := 17) dX6_results_17 rfl ?_
    refine z_iadd (pc := 18) dX6_results_18 ?_
    rw [nI_add]
    refine z_iald (pc := 19) dX6_results_19 (hM2.k16) (vp_in_nI (by omega) (by omega)) ?_
    refine z_goto (pc := 20) (tgt := 24) dX6_results_20 (by decide) ?_
    refine z_iret (pc := 24) dX6_results_24 rfl (⟨by rw [z_if_t hln, nI_clamp (by omega), nI_clamp (by omega), nI_clamp (by omega)]; rfl, hM2, hf2⟩)

theorem mX6_points (hM : z_Mo G F A M w) (x y : Int32) : z_M G zX6_points 2 [.ref (A 22 0 0), .int x, .int y] w 0 0 (z_sm G F A (z_sM M 21 0 (z_go (z_ln x y) True True)) w (some (.int (z_if (z_ln x y) (M 17 (z_sh y.toNatClampNeg + x.toNatClampNeg)) 0)))) z_nx := by
  refine z_M.of (by decide +kernel) rfl (by intro v hv; simp only [List.mem_cons, List.not_mem_nil, or_false] at hv; rcases hv with rfl | rfl | rfl <;> first | rfl | exact z_isr_cat (z_isr_rf _)) (Nat.le_of_ble_eq_true rfl) ?_
  show z_E _ zX6_points _ _ 0 [some (.ref (A 22 0 0)), some (.int x), some (.int y)] [] _ _ _
  refine z_aload_n (pc := 0) dX6_points_0 rfl (by first | rfl | exact z_isr_rf _) ?_
  refine z_iload_n (pc := 1) dX6_points_1 rfl ?_
  refine z_iload_n (pc := 2) dX6_points_2 rfl ?_
  refine z_callV (pc := 3) (mX6_asks hM x y) dX6_points_3 cwX6_141 okX6_asks rfl (hM.k22) rfl rfl (by omega) rfl (Nat.le_of_ble_eq_true rfl) (by omega) (by omega) (fun _ _ h => h.elim) (fun v wN hN => ?_)
  obtain ⟨rfl, hM2, hf2⟩ := hN
  refine z_if_eq (pc := 6) (tgt := 23) dX6_points_6 (by decide) (fun hc => ?_) (fun hc => ?_)
  · refine z_iconst_0 (pc := 23) dX6_points_23 ?_
    refine z_iret (pc := 24) dX6_points_24 rfl (⟨by rw [z_if_f (z_b_0 hc)], hM2, hf2⟩)
  · have hln := z_b_1 hc
    have hln2 := hln
    obtain ⟨l, n, h1, h6, hl, rfl, rfl⟩ := hln2
    have hp := z_p4 n (by omega)
    have hs := z_sh_s n (by omega) h1
    refine z_aload_n (pc := 9) dX6_points_9 rfl (by first | rfl | exact z_isr_rf _) ?_
    refine gfX6_47 (pc := 10) rfl dX6_points_10 (hM2.k22) rfl ?_
    refine z_iload_n (pc := 13) dX6_points_13 rfl ?_
    refine z_callSp (pc := 14) (mX6_shorter (G := G) (n := n) (by omega) h1) dX6_points_14 cwX6_115 okX6_shorter rfl (by omega) rfl (Nat.le_of_ble_eq_true rfl) ?_
    refine z_iload_n (pc := 17) dX6_points_17 rfl ?_
    refine z_iadd (pc := 18) dX6_points_18 ?_
    rw [nI_add]
    refine z_iald (pc := 19) dX6_points_19 (hM2.k17) (vp_in_nI (by omega) (by omega)) ?_
    refine z_goto (pc := 20) (tgt := 24) dX6_points_20 (by decide) ?_
    refine z_iret (pc := 24) dX6_points_24 rfl (⟨by rw [z_if_t hln, nI_clamp (by omega), nI_clamp (by omega), nI_clamp (by omega)]; rfl, hM2, hf2⟩)

theorem mX6_isDropped (hM : z_Mo G F A M w) (x y : Int32) : z_M G zX6_isDropped 2 [.ref (A 22 0 0), .int x, .int y] w 0 0 (z_sm G F A (z_sM M 21 0 (z_go (z_ln x y) True True)) w (some (.int (z_b (z_ln x y ∧ z_gn M x.toNatClampNeg y.toNatClampNeg))))) z_nx := by
  refine z_M.of (by decide +kernel) rfl (by intro v hv; simp only [List.mem_cons, List.not_mem_nil, or_false] at hv; rcases hv with rfl | rfl | rfl <;> first | rfl | exact z_isr_cat (z_isr_rf _)) (Nat.le_of_ble_eq_true rfl) ?_
  show z_E _ zX6_isDropped _ _ 0 [some (.ref (A 22 0 0)), some (.int x), some (.int y)] [] _ _ _
  refine z_aload_n (pc := 0) dX6_isDropped_0 rfl (by first | rfl | exact z_isr_rf _) ?_
  refine z_iload_n (pc := 1) dX6_isDropped_1 rfl ?_
  refine z_iload_n (pc := 2) dX6_isDropped_2 rfl ?_
  refine z_callV (pc := 3) (mX6_asks hM x y) dX6_isDropped_3 cwX6_141 okX6_asks rfl (hM.k22) rfl rfl (by omega) rfl (Nat.le_of_ble_eq_true rfl) (by omega) (by omega) (fun _ _ h => h.elim) (fun v wN hN => ?_)
  obtain ⟨rfl, hM2, hf2⟩ := hN
  refine z_if_eq (pc := 6) (tgt := 22) dX6_isDropped_6 (by decide) (fun hc => ?_) (fun hc => ?_)
  · refine z_iconst_0 (pc := 22) dX6_isDropped_22 ?_
    refine z_zret (pc := 23) dX6_isDropped_23 rfl (Or.inl rfl ) ( ⟨by rw [z_b_f (fun h => z_b_0 hc h.1)], hM2, hf2⟩)
  · have hln := z_b_1 hc
    have hln2 := hln
    obtain ⟨l, n, h1, h6, hl, rfl, rfl⟩ := hln2
    have hp := z_p4 n (by omega)
    refine z_aload_n (pc := 9) dX6_isDropped_9 rfl (by first | rfl | exact z_isr_rf _) ?_
    refine z_iload_n (pc := 10) dX6_isDropped_10 rfl ?_
    refine z_iload_n (pc := 11) dX6_isDropped_11 rfl ?_
    refine z_callVp (pc := 12) (mX6_isGone hM2 (l := l) (n := n) (by omega) h6) dX6_isDropped_12 cwX6_121 okX6_isGone rfl (hM2.k22) rfl rfl (by omega) rfl (Nat.le_of_ble_eq_true rfl) ?_
    have e : z_gn (z_sM M 21 0 (z_go (z_ln (nI l) (nI n)) True True)) l n = z_gn M l n := rfl
    rw [e]
    refine z_if_eq (pc := 15) (tgt := 22) dX6_isDropped_15 (by decide) (fun hd => ?_) (fun hd => ?_)
    · refine z_iconst_0 (pc := 22) dX6_isDropped_22 ?_
      refine z_zret (pc := 23) dX6_isDropped_23 rfl (Or.inl rfl ) ( ⟨by rw [z_b_f (fun h => z_b_0 hd (by have := h.2; rw [nI_clamp (by omega), nI_clamp (by omega)] at this; exact this))], hM2, hf2⟩)
    · refine z_iconst_1 (pc := 18) dX6_isDropped_18 ?_
      refine z_goto (pc := 19) (tgt := 23) dX6_isDropped_19 (by decide) ?_
      refine z_zret (pc := 23) dX6_isDropped_23 rfl (Or.inr rfl ) ( ⟨by rw [z_b_t ⟨hln, by rw [nI_clamp (by omega), nI_clamp (by omega)]; exact z_b_1 hd⟩], hM2, hf2⟩)

theorem mX6_mean (hM : z_Mo G F A M w) (x y : Int32) (hfl : ∀ n l, 1 ≤ n → n ≤ 6 → l < 4 ^ n → M 16 (z_sh n + l) ≠ 0 → vf_n32 (FP.fdiv (FP.i2f (M 17 (z_sh n + l))) (FP.i2f (M 16 (z_sh n + l))))) : z_M G zX6_mean 2 [.ref (A 22 0 0), .int x, .int y] w 0 0 (z_sm G F A (z_sM M 21 0 (z_go (z_ln x y) True True)) w (some (.float (z_if (z_ln x y ∧ M 16 (z_sh y.toNatClampNeg + x.toNatClampNeg) ≠ 0) (FP.fdiv (FP.i2f (M 17 (z_sh y.toNatClampNeg + x.toNatClampNeg))) (FP.i2f (M 16 (z_sh y.toNatClampNeg + x.toNatClampNeg)))) FP.fconst0)))) z_nx := by
  refine z_M.of (by decide +kernel) rfl (by intro v hv; simp only [List.mem_cons, List.not_mem_nil, or_false] at hv; rcases hv with rfl | rfl | rfl <;> first | rfl | exact z_isr_cat (z_isr_rf _)) (Nat.le_of_ble_eq_true rfl) ?_
  show z_E _ zX6_mean _ _ 0 [some (.ref (A 22 0 0)), some (.int x), some (.int y), none] [] _ _ _
  refine z_aload_n (pc := 0) dX6_mean_0 rfl (by first | rfl | exact z_isr_rf _) ?_
  refine z_iload_n (pc := 1) dX6_mean_1 rfl ?_
  refine z_iload_n (pc := 2) dX6_mean_2 rfl ?_
  refine z_callV (pc := 3) (mX6_asks hM x y) dX6_mean_3 cwX6_141 okX6_asks rfl (hM.k22) rfl rfl (by omega) rfl (Nat.le_of_ble_eq_true rfl) (by omega) (by omega) (fun _ _ h => h.elim) (fun v wN hN => ?_)
  obtain ⟨rfl, hM2, hf2⟩ := hN
  refine z_if_ne (pc := 6) (tgt := 11) dX6_mean_6 (by decide) (fun hc => ?_) (fun hc => ?_)
  · have hln := z_b_1 hc
    have hln2 := hln
    obtain ⟨l, n, h1, h6, hl, rfl, rfl⟩ := hln2
    have hp := z_p4 n (by omega)
    have hs := z_sh_s n (by omega) h1
    refine z_iload_n (pc := 11) dX6_mean_11 rfl ?_
    refine z_callSp (pc := 12) (mX6_shorter (G := G) (n := n) (by omega) h1) dX6_mean_12 cwX6_115 okX6_shorter rfl (by omega) rfl (Nat.le_of_ble_eq_true rfl) ?_
    refine z_iload_n (pc := 15) dX6_mean_15 rfl ?_
    refine z_iadd (pc := 16) dX6_mean_16 ?_
    rw [nI_add]
    refine z_istore3 (pc := 17) dX6_mean_17 ?_
    refine z_aload_n (pc := 18) dX6_mean_18 rfl (by first | rfl | exact z_isr_rf _) ?_
    refine gfX6_44 (pc := 19) rfl dX6_mean_19 (hM2.k22) rfl ?_
    refine z_iload_n (pc := 22) dX6_mean_22 rfl ?_
    refine z_iald (pc := 23) dX6_mean_23 (hM2.k16) (vp_in_nI (by omega) (by omega)) ?_
    rw [nI_clamp (show z_sh n + l < 2 ^ 31 by omega)]
    refine z_if_ne (pc := 24) (tgt := 31) dX6_mean_24 (by decide) (fun hd => ?_) (fun hd => ?_)
    · refine z_aload_n (pc := 31) dX6_mean_31 rfl (by first | rfl | exact z_isr_rf _) ?_
      refine gfX6_47 (pc := 32) rfl dX6_mean_32 (hM2.k22) rfl ?_
      refine z_iload_n (pc := 35) dX6_mean_35 rfl ?_
      refine z_iald (pc := 36) dX6_mean_36 (hM2.k17) (vp_in_nI (by omega) (by omega)) ?_
      rw [nI_clamp (show z_sh n + l < 2 ^ 31 by omega)]
      refine z_i2f (pc := 37) dX6_mean_37 ?_
      refine z_aload_n (pc := 38) dX6_mean_38 rfl (by first | rfl | exact z_isr_rf _) ?_
      refine gfX6_44 (pc := 39) rfl dX6_mean_39 (hM2.k22) rfl ?_
      refine z_iload_n (pc := 42) dX6_mean_42 rfl ?_
      refine z_iald (pc := 43) dX6_mean_43 (hM2.k16) (vp_in_nI (by omega) (by omega)) ?_
      rw [nI_clamp (show z_sh n + l < 2 ^ 31 by omega)]
      refine z_i2f (pc := 44) dX6_mean_44 ?_
      refine z_fdiv (pc := 45) dX6_mean_45 (hfl n l h1 h6 hl hd) ?_
      refine z_fret (pc := 46) dX6_mean_46 rfl (⟨by rw [z_if_t ⟨hln, by rw [nI_clamp (by omega), nI_clamp (by omega)]; exact hd⟩, nI_clamp (by omega), nI_clamp (by omega)]; rfl, hM2, hf2⟩)
    · refine z_fconst0 (pc := 27) dX6_mean_27 ?_
      refine z_goto (pc := 28) (tgt := 46) dX6_mean_28 (by decide) ?_
      refine z_fret (pc := 46) dX6_mean_46 rfl (⟨by rw [z_if_f (fun h => h.2 (by rw [nI_clamp (by omega), nI_clamp (by omega)]; exact hd))], hM2, hf2⟩)
  · refine z_fconst0 (pc := 9) dX6_mean_9 ?_
    refine z_fret (pc := 10) dX6_mean_10 rfl (⟨by rw [z_if_f (fun h => z_b_0 hc h.1)], hM2, hf2⟩)

theorem mX6_score (hM : z_Mo G F A M w) {n : Nat} (h0 : M 0 0 = nI n) (hn : n ≤ 8) (x : Int32) : z_M G zX6_score 2 [.ref (A 22 0 0), .int x] w 0 0 (z_sm G F A (z_sM M 21 0 (z_go (z_rg x n) True True)) w (some (.int (z_if (z_rg x n) (M 1 x.toNatClampNeg) 0)))) z_nx := by
  refine z_M.of (by decide +kernel) rfl (by intro v hv; simp only [List.mem_cons, List.not_mem_nil, or_false] at hv; rcases hv with rfl | rfl <;> first | rfl | exact z_isr_cat (z_isr_rf _)) (Nat.le_of_ble_eq_true rfl) ?_
  show z_E _ zX6_score _ _ 0 [some (.ref (A 22 0 0)), some (.int x)] [] _ _ _
  refine z_aload_n (pc := 0) dX6_score_0 rfl (by first | rfl | exact z_isr_rf _) ?_
  refine z_aload_n (pc := 1) dX6_score_1 rfl (by first | rfl | exact z_isr_rf _) ?_
  refine z_iload_n (pc := 2) dX6_score_2 rfl ?_
  refine z_callVp (pc := 3) (mX6_isPlayer hM h0 (by omega) x) dX6_score_3 cwX6_102 okX6_isPlayer rfl (hM.k22) rfl rfl (by omega) rfl (Nat.le_of_ble_eq_true rfl) ?_
  refine z_iconst_1 (pc := 6) dX6_score_6 ?_
  refine z_iconst_1 (pc := 7) dX6_score_7 ?_
  refine z_callV (pc := 8) (mX6_goes hM rfl z_tt z_tt) dX6_score_8 cwX6_91 okX6_goes rfl (hM.k22) rfl rfl (by omega) rfl (Nat.le_of_ble_eq_true rfl) (by omega) (by omega) (fun _ _ h => h.elim) (fun v wN hN => ?_)
  obtain ⟨rfl, hM2, hf2⟩ := hN
  rw [z_b_a]
  refine z_if_eq (pc := 11) (tgt := 23) dX6_score_11 (by decide) (fun hc => ?_) (fun hc => ?_)
  · refine z_iconst_0 (pc := 23) dX6_score_23 ?_
    refine z_iret (pc := 24) dX6_score_24 rfl (⟨by rw [z_if_f (z_b_0 hc)], hM2, hf2⟩)
  · have hr := z_b_1 hc
    have hr2 := hr
    obtain ⟨j, hj, rfl⟩ := hr2
    refine z_aload_n (pc := 14) dX6_score_14 rfl (by first | rfl | exact z_isr_rf _) ?_
    refine gfX6_7 (pc := 15) rfl dX6_score_15 (hM2.k22) rfl ?_
    refine z_iload_n (pc := 18) dX6_score_18 rfl ?_
    refine z_iald (pc := 19) dX6_score_19 (hM2.k1) (vp_in_nI (by omega) (by omega)) ?_
    refine z_goto (pc := 20) (tgt := 24) dX6_score_20 (by decide) ?_
    refine z_iret (pc := 24) dX6_score_24 rfl (⟨by rw [z_if_t hr]; rfl, hM2, hf2⟩)

theorem mX6_puzzle (hM : z_Mo G F A M w) {n : Nat} (h0 : M 13 0 = nI n) (hn : n ≤ 40) (x : Int32) : z_M G zX6_puzzle 2 [.ref (A 22 0 0), .int x] w 0 0 (z_sm G F A (z_sM M 21 0 (z_go (z_rg x n) True True)) w (some (.int (z_if (z_rg x n) (M 14 x.toNatClampNeg) 0)))) z_nx := by
  refine z_M.of (by decide +kernel) rfl (by intro v hv; simp only [List.mem_cons, List.not_mem_nil, or_false] at hv; rcases hv with rfl | rfl <;> first | rfl | exact z_isr_cat (z_isr_rf _)) (Nat.le_of_ble_eq_true rfl) ?_
  show z_E _ zX6_puzzle _ _ 0 [some (.ref (A 22 0 0)), some (.int x)] [] _ _ _
  refine z_aload_n (pc := 0) dX6_puzzle_0 rfl (by first | rfl | exact z_isr_rf _) ?_
  refine z_aload_n (pc := 1) dX6_puzzle_1 rfl (by first | rfl | exact z_isr_rf _) ?_
  refine z_iload_n (pc := 2) dX6_puzzle_2 rfl ?_
  refine z_callVp (pc := 3) (mX6_isPuzzle hM h0 (by omega) x) dX6_puzzle_3 cwX6_138 okX6_isPuzzle rfl (hM.k22) rfl rfl (by omega) rfl (Nat.le_of_ble_eq_true rfl) ?_
  refine z_iconst_1 (pc := 6) dX6_puzzle_6 ?_
  refine z_iconst_1 (pc := 7) dX6_puzzle_7 ?_
  refine z_callV (pc := 8) (mX6_goes hM rfl z_tt z_tt) dX6_puzzle_8 cwX6_91 okX6_goes rfl (hM.k22) rfl rfl (by omega) rfl (Nat.le_of_ble_eq_true rfl) (by omega) (by omega) (fun _ _ h => h.elim) (fun v wN hN => ?_)
  obtain ⟨rfl, hM2, hf2⟩ := hN
  rw [z_b_a]
  refine z_if_eq (pc := 11) (tgt := 23) dX6_puzzle_11 (by decide) (fun hc => ?_) (fun hc => ?_)
  · refine z_iconst_0 (pc := 23) dX6_puzzle_23 ?_
    refine z_iret (pc := 24) dX6_puzzle_24 rfl (⟨by rw [z_if_f (z_b_0 hc)], hM2, hf2⟩)
  · have hr := z_b_1 hc
    have hr2 := hr
    obtain ⟨j, hj, rfl⟩ := hr2
    refine z_aload_n (pc := 14) dX6_puzzle_14 rfl (by first | rfl | exact z_isr_rf _) ?_
    refine gfX6_38 (pc := 15) rfl dX6_puzzle_15 (hM2.k22) rfl ?_
    refine z_iload_n (pc := 18) dX6_puzzle_18 rfl ?_
    refine z_iald (pc := 19) dX6_puzzle_19 (hM2.k14) (vp_in_nI (by omega) (by omega)) ?_
    refine z_goto (pc := 20) (tgt := 24) dX6_puzzle_20 (by decide) ?_
    refine z_iret (pc := 24) dX6_puzzle_24 rfl (⟨by rw [z_if_t hr]; rfl, hM2, hf2⟩)

theorem mX6_source (hM : z_Mo G F A M w) {n : Nat} (h0 : M 13 0 = nI n) (hn : n ≤ 40) (x : Int32) : z_M G zX6_source 2 [.ref (A 22 0 0), .int x] w 0 0 (z_sm G F A (z_sM M 21 0 (z_go (z_rg x n) True True)) w (some (.int (z_if (z_rg x n) (M 15 x.toNatClampNeg) 0)))) z_nx := by
  refine z_M.of (by decide +kernel) rfl (by intro v hv; simp only [List.mem_cons, List.not_mem_nil, or_false] at hv; rcases hv with rfl | rfl <;> first | rfl | exact z_isr_cat (z_isr_rf _)) (Nat.le_of_ble_eq_true rfl) ?_
  show z_E _ zX6_source _ _ 0 [some (.ref (A 22 0 0)), some (.int x)] [] _ _ _
  refine z_aload_n (pc := 0) dX6_source_0 rfl (by first | rfl | exact z_isr_rf _) ?_
  refine z_aload_n (pc := 1) dX6_source_1 rfl (by first | rfl | exact z_isr_rf _) ?_
  refine z_iload_n (pc := 2) dX6_source_2 rfl ?_
  refine z_callVp (pc := 3) (mX6_isPuzzle hM h0 (by omega) x) dX6_source_3 cwX6_138 okX6_isPuzzle rfl (hM.k22) rfl rfl (by omega) rfl (Nat.le_of_ble_eq_true rfl) ?_
  refine z_iconst_1 (pc := 6) dX6_source_6 ?_
  refine z_iconst_1 (pc := 7) dX6_source_7 ?_
  refine z_callV (pc := 8) (mX6_goes hM rfl z_tt z_tt) dX6_source_8 cwX6_91 okX6_goes rfl (hM.k22) rfl rfl (by omega) rfl (Nat.le_of_ble_eq_true rfl) (by omega) (by omega) (fun _ _ h => h.elim) (fun v wN hN => ?_)
  obtain ⟨rfl, hM2, hf2⟩ := hN
  rw [z_b_a]
  refine z_if_eq (pc := 11) (tgt := 23) dX6_source_11 (by decide) (fun hc => ?_) (fun hc => ?_)
  · refine z_iconst_0 (pc := 23) dX6_source_23 ?_
    refine z_iret (pc := 24) dX6_source_24 rfl (⟨by rw [z_if_f (z_b_0 hc)], hM2, hf2⟩)
  · have hr := z_b_1 hc
    have hr2 := hr
    obtain ⟨j, hj, rfl⟩ := hr2
    refine z_aload_n (pc := 14) dX6_source_14 rfl (by first | rfl | exact z_isr_rf _) ?_
    refine gfX6_41 (pc := 15) rfl dX6_source_15 (hM2.k22) rfl ?_
    refine z_iload_n (pc := 18) dX6_source_18 rfl ?_
    refine z_iald (pc := 19) dX6_source_19 (hM2.k15) (vp_in_nI (by omega) (by omega)) ?_
    refine z_goto (pc := 20) (tgt := 24) dX6_source_20 (by decide) ?_
    refine z_iret (pc := 24) dX6_source_24 rfl (⟨by rw [z_if_t hr]; rfl, hM2, hf2⟩)

theorem mX6_worth (hM : z_Mo G F A M w) (x : Int32) : z_M G zX6_worth 3 [.ref (A 22 0 0), .int x] w 0 0 (z_sm G F A (z_sM M 21 0 (z_go (z_rg x 1000) True True)) w (some (.int (z_if (z_rg x 1000) (wo x) 0)))) z_nx := by
  refine z_M.of (by decide +kernel) rfl (by intro v hv; simp only [List.mem_cons, List.not_mem_nil, or_false] at hv; rcases hv with rfl | rfl <;> first | rfl | exact z_isr_cat (z_isr_rf _)) (Nat.le_of_ble_eq_true rfl) ?_
  show z_E _ zX6_worth _ _ 0 [some (.ref (A 22 0 0)), some (.int x)] [] _ _ _
  refine z_aload_n (pc := 0) dX6_worth_0 rfl (by first | rfl | exact z_isr_rf _) ?_
  refine z_iload_n (pc := 1) dX6_worth_1 rfl ?_
  refine z_callSp (pc := 2) (mX6_isPosition (G := G) x) dX6_worth_2 cwX6_84 okX6_isPosition rfl (by omega) rfl (Nat.le_of_ble_eq_true rfl) ?_
  refine z_iconst_1 (pc := 5) dX6_worth_5 ?_
  refine z_iconst_1 (pc := 6) dX6_worth_6 ?_
  refine z_callV (pc := 7) (mX6_goes hM rfl z_tt z_tt) dX6_worth_7 cwX6_91 okX6_goes rfl (hM.k22) rfl rfl (by omega) rfl (Nat.le_of_ble_eq_true rfl) (by omega) (by omega) (fun _ _ h => h.elim) (fun v wN hN => ?_)
  obtain ⟨rfl, hM2, hf2⟩ := hN
  rw [z_b_a]
  refine z_if_eq (pc := 10) (tgt := 20) dX6_worth_10 (by decide) (fun hc => ?_) (fun hc => ?_)
  · refine z_iconst_0 (pc := 20) dX6_worth_20 ?_
    refine z_iret (pc := 21) dX6_worth_21 rfl (⟨by rw [z_if_f (z_b_0 hc)], hM2, hf2⟩)
  · refine z_iload_n (pc := 13) dX6_worth_13 rfl ?_
    refine z_callSp (pc := 14) (mX6_worthOf G _ x) dX6_worth_14 cwX6_77 okX6_worthOf rfl (by omega) rfl (Nat.le_of_ble_eq_true rfl) ?_
    refine z_goto (pc := 17) (tgt := 21) dX6_worth_17 (by decide) ?_
    refine z_iret (pc := 21) dX6_worth_21 rfl (⟨by rw [z_if_t (z_b_1 hc)], hM2, hf2⟩)

theorem mX6_best (hM : z_Mo G F A M w) (x : Int32) : z_M G zX6_best 3 [.ref (A 22 0 0), .int x] w 0 0 (z_sm G F A (z_sM M 21 0 (z_go (z_rg x 1000) True True)) w (some (.int (z_if (z_rg x 1000) (bst x) 0)))) z_nx := by
  refine z_M.of (by decide +kernel) rfl (by intro v hv; simp only [List.mem_cons, List.not_mem_nil, or_false] at hv; rcases hv with rfl | rfl <;> first | rfl | exact z_isr_cat (z_isr_rf _)) (Nat.le_of_ble_eq_true rfl) ?_
  show z_E _ zX6_best _ _ 0 [some (.ref (A 22 0 0)), some (.int x)] [] _ _ _
  refine z_aload_n (pc := 0) dX6_best_0 rfl (by first | rfl | exact z_isr_rf _) ?_
  refine z_iload_n (pc := 1) dX6_best_1 rfl ?_
  refine z_callSp (pc := 2) (mX6_isPosition (G := G) x) dX6_best_2 cwX6_84 okX6_isPosition rfl (by omega) rfl (Nat.le_of_ble_eq_true rfl) ?_
  refine z_iconst_1 (pc := 5) dX6_best_5 ?_
  refine z_iconst_1 (pc := 6) dX6_best_6 ?_
  refine z_callV (pc := 7) (mX6_goes hM rfl z_tt z_tt) dX6_best_7 cwX6_91 okX6_goes rfl (hM.k22) rfl rfl (by omega) rfl (Nat.le_of_ble_eq_true rfl) (by omega) (by omega) (fun _ _ h => h.elim) (fun v wN hN => ?_)
  obtain ⟨rfl, hM2, hf2⟩ := hN
  rw [z_b_a]
  refine z_if_eq (pc := 10) (tgt := 20) dX6_best_10 (by decide) (fun hc => ?_) (fun hc => ?_)
  · refine z_iconst_0 (pc := 20) dX6_best_20 ?_
    refine z_iret (pc := 21) dX6_best_21 rfl (⟨by rw [z_if_f (z_b_0 hc)], hM2, hf2⟩)
  · refine z_iload_n (pc := 13) dX6_best_13 rfl ?_
    refine z_callSp (pc := 14) (mX6_bestIn G _ x) dX6_best_14 cwX6_81 okX6_bestIn rfl (by omega) rfl (Nat.le_of_ble_eq_true rfl) ?_
    refine z_goto (pc := 17) (tgt := 21) dX6_best_17 (by decide) ?_
    refine z_iret (pc := 21) dX6_best_21 rfl (⟨by rw [z_if_t (z_b_1 hc)], hM2, hf2⟩)

theorem mX6_after (hM : z_Mo G F A M w) (x y : Int32) : z_M G zX6_after 2 [.ref (A 22 0 0), .int x, .int y] w 0 0 (z_sm G F A (z_sM M 21 0 (z_go (z_rg x 1000 ∧ z_rg y 4) True True)) w (some (.int (z_if (z_rg x 1000 ∧ z_rg y 4) (nx x y) 0)))) z_nx := by
  refine z_M.of (by decide +kernel) rfl (by intro v hv; simp only [List.mem_cons, List.not_mem_nil, or_false] at hv; rcases hv with rfl | rfl | rfl <;> first | rfl | exact z_isr_cat (z_isr_rf _)) (Nat.le_of_ble_eq_true rfl) ?_
  show z_E _ zX6_after _ _ 0 [some (.ref (A 22 0 0)), some (.int x), some (.int y)] [] _ _ _
  have fin : ∀ a : Int32, a = z_b (z_rg x 1000 ∧ z_rg y 4) → z_E G zX6_after 2 (z_mq G (z_sm G F A (z_sM M 21 0 (z_go (z_rg x 1000 ∧ z_rg y 4) True True)) w (some (.int (z_if (z_rg x 1000 ∧ z_rg y 4) (nx x y) 0)))) z_nx) 20 [some (.ref (A 22 0 0)), some (.int x), some (.int y)] [.int a, .ref (A 22 0 0)] w 0 0 := by
    intro a ha
    refine z_iconst_1 (pc := 20) dX6_after_20 ?_
    refine z_iconst_1 (pc := 21) dX6_after_21 ?_
    refine z_callV (pc := 22) (mX6_goes hM ha z_tt z_tt) dX6_after_22 cwX6_91 okX6_goes rfl (hM.k22) rfl rfl (by omega) rfl (Nat.le_of_ble_eq_true rfl) (by omega) (by omega) (fun _ _ h => h.elim) (fun v wN hN => ?_)
    obtain ⟨rfl, hM2, hf2⟩ := hN
    rw [z_b_a]
    refine z_if_eq (pc := 25) (tgt := 36) dX6_after_25 (by decide) (fun hc => ?_) (fun hc => ?_)
    · refine z_iconst_0 (pc := 36) dX6_after_36 ?_
      refine z_iret (pc := 37) dX6_after_37 rfl (⟨by rw [z_if_f (z_b_0 hc)], hM2, hf2⟩)
    · refine z_iload_n (pc := 28) dX6_after_28 rfl ?_
      refine z_iload_n (pc := 29) dX6_after_29 rfl ?_
      refine z_callSp (pc := 30) (mX6_next G _ x y) dX6_after_30 cwX6_73 okX6_next rfl (by omega) rfl (Nat.le_of_ble_eq_true rfl) ?_
      refine z_goto (pc := 33) (tgt := 37) dX6_after_33 (by decide) ?_
      refine z_iret (pc := 37) dX6_after_37 rfl (⟨by rw [z_if_t (z_b_1 hc)], hM2, hf2⟩)
  refine z_aload_n (pc := 0) dX6_after_0 rfl (by first | rfl | exact z_isr_rf _) ?_
  refine z_iload_n (pc := 1) dX6_after_1 rfl ?_
  refine z_callSp (pc := 2) (mX6_isPosition (G := G) x) dX6_after_2 cwX6_84 okX6_isPosition rfl (by omega) rfl (Nat.le_of_ble_eq_true rfl) ?_
  refine z_if_eq (pc := 5) (tgt := 19) dX6_after_5 (by decide) (fun hc => ?_) (fun hc => ?_)
  · refine z_iconst_0 (pc := 19) dX6_after_19 ?_
    exact fin 0 (z_b_f (fun h => z_b_0 hc h.1)).symm
  · refine z_iload_n (pc := 8) dX6_after_8 rfl ?_
    refine z_callSp (pc := 9) (mX6_isMove (G := G) y) dX6_after_9 cwX6_88 okX6_isMove rfl (by omega) rfl (Nat.le_of_ble_eq_true rfl) ?_
    refine z_if_eq (pc := 12) (tgt := 19) dX6_after_12 (by decide) (fun hd => ?_) (fun hd => ?_)
    · refine z_iconst_0 (pc := 19) dX6_after_19 ?_
      exact fin 0 (z_b_f (fun h => z_b_0 hd h.2)).symm
    · refine z_iconst_1 (pc := 15) dX6_after_15 ?_
      refine z_goto (pc := 16) (tgt := 20) dX6_after_16 (by decide) ?_
      exact fin 1 (z_b_t ⟨z_b_1 hc, z_b_1 hd⟩).symm
theorem mX6_rating (hM : z_Mo G F A M w) {n : Nat} (h0 : M 0 0 = nI n) (hn : n ≤ 8) (x y : Int32) : z_M G zX6_rating 2 [.ref (A 22 0 0), .int x, .int y] w 0 0 (z_sm G F A (z_sM M 21 0 (z_go (z_rg x n) (z_rg y 5) True)) w (some (.int (z_if (z_rg x n ∧ z_rg y 5) (M 3 (5 * x.toNatClampNeg + y.toNatClampNeg)) 0)))) z_nx := by
  refine z_M.of (by decide +kernel) rfl (by intro v hv; simp only [List.mem_cons, List.not_mem_nil, or_false] at hv; rcases hv with rfl | rfl | rfl <;> first | rfl | exact z_isr_cat (z_isr_rf _)) (Nat.le_of_ble_eq_true rfl) ?_
  show z_E _ zX6_rating _ _ 0 [some (.ref (A 22 0 0)), some (.int x), some (.int y)] [] _ _ _
  refine z_aload_n (pc := 0) dX6_rating_0 rfl (by first | rfl | exact z_isr_rf _) ?_
  refine z_aload_n (pc := 1) dX6_rating_1 rfl (by first | rfl | exact z_isr_rf _) ?_
  refine z_iload_n (pc := 2) dX6_rating_2 rfl ?_
  refine z_callVp (pc := 3) (mX6_isPlayer hM h0 (by omega) x) dX6_rating_3 cwX6_102 okX6_isPlayer rfl (hM.k22) rfl rfl (by omega) rfl (Nat.le_of_ble_eq_true rfl) ?_
  refine z_iload_n (pc := 6) dX6_rating_6 rfl ?_
  refine z_iconst_0 (pc := 7) dX6_rating_7 ?_
  refine z_iconst_4 (pc := 8) dX6_rating_8 ?_
  refine z_callSp (pc := 9) (mX6_in (G := G) y 0 4) dX6_rating_9 cwX6_63 okX6_in rfl (by omega) rfl (Nat.le_of_ble_eq_true rfl) ?_
  refine z_iconst_1 (pc := 12) dX6_rating_12 ?_
  have e5 : z_b ((0 : Int32) ≤ y ∧ y ≤ 4) = z_b (z_rg y 5) := z_b_c (z_rg_iff (x := y) (n := 5) (by decide))
  refine z_callV (pc := 13) (mX6_goes hM rfl e5 z_tt) dX6_rating_13 cwX6_91 okX6_goes rfl (hM.k22) rfl rfl (by omega) rfl (Nat.le_of_ble_eq_true rfl) (by omega) (by omega) (fun _ _ h => h.elim) (fun v wN hN => ?_)
  obtain ⟨rfl, hM2, hf2⟩ := hN
  rw [z_b_a2]
  refine z_if_eq (pc := 16) (tgt := 32) dX6_rating_16 (by decide) (fun hc => ?_) (fun hc => ?_)
  · refine z_iconst_0 (pc := 32) dX6_rating_32 ?_
    refine z_iret (pc := 33) dX6_rating_33 rfl (⟨by rw [z_if_f (z_b_0 hc)], hM2, hf2⟩)
  · have hr := z_b_1 hc
    have hr2 := hr
    obtain ⟨⟨j, hj, rfl⟩, t, ht, rfl⟩ := hr2
    have e : (5 : Int32) * nI j + nI t = nI (5 * j + t) := by
      rw [show (5 : Int32) = nI 5 from rfl, z_nm, nI_add]
    refine z_aload_n (pc := 19) dX6_rating_19 rfl (by first | rfl | exact z_isr_rf _) ?_
    refine gfX6_16 (pc := 20) rfl dX6_rating_20 (hM2.k22) rfl ?_
    refine z_iconst_5 (pc := 23) dX6_rating_23 ?_
    refine z_iload_n (pc := 24) dX6_rating_24 rfl ?_
    refine z_imul (pc := 25) dX6_rating_25 ?_
    refine z_iload_n (pc := 26) dX6_rating_26 rfl ?_
    refine z_iadd (pc := 27) dX6_rating_27 ?_
    rw [e]
    refine z_iald (pc := 28) dX6_rating_28 (hM2.k3) (vp_in_nI (by omega) (by omega)) ?_
    refine z_goto (pc := 29) (tgt := 33) dX6_rating_29 (by decide) ?_
    refine z_iret (pc := 33) dX6_rating_33 rfl (⟨by rw [z_if_t hr, nI_clamp (by omega), nI_clamp (by omega), nI_clamp (by omega)]; rfl, hM2, hf2⟩)
theorem mX6_position (hM : z_Mo G F A M w) : z_M G zX6_position 1 [.ref (A 22 0 0)] w 0 0 (z_sm G F A (z_sM M 21 0 0) w (some (.int (z_if (M 6 0 = 0) (-1) (M 7 0))))) z_nx := by
  refine z_M.of (by decide +kernel) rfl (by intro v hv; simp only [List.mem_cons, List.not_mem_nil, or_false] at hv; rcases hv with rfl <;> first | rfl | exact z_isr_cat (z_isr_rf _)) (Nat.le_of_ble_eq_true rfl) ?_
  show z_E _ zX6_position _ _ 0 [some (.ref (A 22 0 0))] [] _ _ _
  refine z_aload_n (pc := 0) dX6_position_0 rfl (by first | rfl | exact z_isr_rf _) ?_
  refine z_aload_n (pc := 1) dX6_position_1 rfl (by first | rfl | exact z_isr_rf _) ?_
  refine gfX6_98 (pc := 2) rfl dX6_position_2 (hM.k22) rfl ?_
  refine z_if_eq (pc := 5) (tgt := 15) dX6_position_5 (by decide) (fun hc => ?_) (fun hc => ?_)
  · refine z_iconst_m1 (pc := 15) dX6_position_15 ?_
    refine z_callV (pc := 16) (mX6_told hM (-1)) dX6_position_16 cwX6_131 okX6_told rfl (hM.k22) rfl rfl (by omega) rfl (Nat.le_of_ble_eq_true rfl) (by omega) (by omega) (fun _ _ h => h.elim) (fun v wN hN => ?_)
    obtain ⟨rfl, hM2, hf2⟩ := hN
    refine z_iret (pc := 19) dX6_position_19 rfl (⟨by rw [z_if_t hc], hM2, hf2⟩)
  · refine z_aload_n (pc := 8) dX6_position_8 rfl (by first | rfl | exact z_isr_rf _) ?_
    refine gfX6_105 (pc := 9) rfl dX6_position_9 (hM.k22) rfl ?_
    refine z_goto (pc := 12) (tgt := 16) dX6_position_12 (by decide) ?_
    refine z_callV (pc := 16) (mX6_told hM (M 7 0)) dX6_position_16 cwX6_131 okX6_told rfl (hM.k22) rfl rfl (by omega) rfl (Nat.le_of_ble_eq_true rfl) (by omega) (by omega) (fun _ _ h => h.elim) (fun v wN hN => ?_)
    obtain ⟨rfl, hM2, hf2⟩ := hN
    refine z_iret (pc := 19) dX6_position_19 rfl (⟨by rw [z_if_f hc], hM2, hf2⟩)
theorem mX6_games (hM : z_Mo G F A M w) (h6 : M 6 0 = 0 ∨ M 6 0 = 1) : z_M G zX6_games 1 [.ref (A 22 0 0)] w 0 0 (z_sm G F A (z_sM M 21 0 0) w (some (.int (M 5 0 - M 6 0)))) z_nx := by
  refine z_M.of (by decide +kernel) rfl (by intro v hv; simp only [List.mem_cons, List.not_mem_nil, or_false] at hv; rcases hv with rfl <;> first | rfl | exact z_isr_cat (z_isr_rf _)) (Nat.le_of_ble_eq_true rfl) ?_
  show z_E _ zX6_games _ _ 0 [some (.ref (A 22 0 0))] [] _ _ _
  refine z_aload_n (pc := 0) dX6_games_0 rfl (by first | rfl | exact z_isr_rf _) ?_
  refine z_aload_n (pc := 1) dX6_games_1 rfl (by first | rfl | exact z_isr_rf _) ?_
  refine z_callVp (pc := 2) (mX6_ended hM h6) dX6_games_2 cwX6_134 okX6_ended rfl (hM.k22) rfl rfl (by omega) rfl (Nat.le_of_ble_eq_true rfl) ?_
  refine z_callV (pc := 5) (mX6_told hM (M 5 0 - M 6 0)) dX6_games_5 cwX6_131 okX6_told rfl (hM.k22) rfl rfl (by omega) rfl (Nat.le_of_ble_eq_true rfl) (by omega) (by omega) (fun _ _ h => h.elim) (fun v wN hN => ?_)
  obtain ⟨rfl, hM2, hf2⟩ := hN
  refine z_iret (pc := 8) dX6_games_8 rfl (⟨rfl, hM2, hf2⟩)
theorem mX6_puzzles (hM : z_Mo G F A M w) : z_M G zX6_puzzles 1 [.ref (A 22 0 0)] w 0 0 (z_sm G F A (z_sM M 21 0 0) w (some (.int (M 13 0)))) z_nx := by
  refine z_M.of (by decide +kernel) rfl (by intro v hv; simp only [List.mem_cons, List.not_mem_nil, or_false] at hv; rcases hv with rfl <;> first | rfl | exact z_isr_cat (z_isr_rf _)) (Nat.le_of_ble_eq_true rfl) ?_
  show z_E _ zX6_puzzles _ _ 0 [some (.ref (A 22 0 0))] [] _ _ _
  refine z_aload_n (pc := 0) dX6_puzzles_0 rfl (by first | rfl | exact z_isr_rf _) ?_
  refine z_aload_n (pc := 1) dX6_puzzles_1 rfl (by first | rfl | exact z_isr_rf _) ?_
  refine gfX6_70 (pc := 2) rfl dX6_puzzles_2 (hM.k22) rfl ?_
  refine z_callV (pc := 5) (mX6_told hM (M 13 0)) dX6_puzzles_5 cwX6_131 okX6_told rfl (hM.k22) rfl rfl (by omega) rfl (Nat.le_of_ble_eq_true rfl) (by omega) (by omega) (fun _ _ h => h.elim) (fun v wN hN => ?_)
  obtain ⟨rfl, hM2, hf2⟩ := hN
  refine z_iret (pc := 8) dX6_puzzles_8 rfl (⟨rfl, hM2, hf2⟩)
end MA

