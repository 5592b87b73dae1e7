/-! the reference's face: enter, begin, move, solve -/
section MAC
variable {G : z_G} {F : Nat → Prop} {A : z_TA} {M : z_TM} {w : z_W}
theorem iX6_enter {QR QX} {w0 : z_W} {n : Nat} (h0 : M 0 0 = nI n) (hn : n < 8) (kk : ∀ w', z_fr F w0 w' → z_Mo G F A (z_sM (z_mr M n 5) 0 0 (nI (n + 1))) w' → QR (some (.int (nI n))) w') : ∀ m i : Nat, 5 - i = m → i ≤ 5 → ∀ w : z_W, z_Mo G F A (z_mr M n i) w → z_fr F w0 w → z_E G zX6_enter 1 (z_mq G QR QX) 27 [some (.ref (A 22 0 0)), some (.int (nI i))] [] w 0 0 := by
  intro m
  induction m with
  | zero =>
    intro i hm hi w hM hf
    have : i = 5 := by omega
    subst this
    have e0 : z_mr M n 5 0 0 = nI n := by rw [z_mr_f (by decide)]; exact h0
    refine z_iload_n (pc := 27) dX6_enter_27 rfl ?_
    refine z_iconst_5 (pc := 28) dX6_enter_28 ?_
    refine z_icmp_ge (pc := 29) (tgt := 54) dX6_enter_29 (by decide) (fun _ => ?_) (fun hn => absurd (nI_le (a := 5) (b := 5) (Nat.le_refl _) (by omega)) hn)
    refine z_aload_n (pc := 54) dX6_enter_54 rfl (by first | rfl | exact z_isr_rf _) ?_
    refine z_dup (pc := 55) dX6_enter_55 (by first | rfl | exact z_isr_cat (z_isr_rf _)) ?_
    refine gfX6_67 (pc := 56) rfl dX6_enter_56 (hM.k22) rfl ?_
    refine z_iconst_1 (pc := 59) dX6_enter_59 ?_
    refine z_iadd (pc := 60) dX6_enter_60 ?_
    rw [e0, nI_1]
    refine pfX6_67 (pc := 61) rfl dX6_enter_61 (hM.k22) (Nat.le_of_ble_eq_true rfl) ?_
    refine z_genM (hM.p0 (nI (n + 1))) (fun w2 hM2 hf2 => ?_)
    refine z_aload_n (pc := 64) dX6_enter_64 rfl (by first | rfl | exact z_isr_rf _) ?_
    refine gfX6_67 (pc := 65) rfl dX6_enter_65 (hM2.k22) rfl ?_
    refine z_iconst_1 (pc := 68) dX6_enter_68 ?_
    refine z_isub (pc := 69) dX6_enter_69 ?_
    rw [z_sM_s, z_upd_s, ← nI_1 n, Int32.add_sub_cancel]
    refine z_iret (pc := 70) dX6_enter_70 rfl (kk _ (hf.tr hf2) hM2)
  | succ m ih =>
    intro i hm hi w hM hf
    have ih := ih (i + 1) (by omega) (by omega)
    have e0 : z_mr M n i 0 0 = nI n := by rw [z_mr_f (by decide)]; exact h0
    have e : (5 : Int32) * nI n + nI i = nI (5 * n + i) := by
      rw [show (5 : Int32) = nI 5 from rfl, z_nm, nI_add]
    refine z_iload_n (pc := 27) dX6_enter_27 rfl ?_
    refine z_iconst_5 (pc := 28) dX6_enter_28 ?_
    refine z_icmp_ge (pc := 29) (tgt := 54) dX6_enter_29 (by decide) (fun hn => absurd hn (nI_ge (a := i) (b := 5) (by omega) (by omega))) (fun _ => ?_)
    refine z_aload_n (pc := 32) dX6_enter_32 rfl (by first | rfl | exact z_isr_rf _) ?_
    refine gfX6_16 (pc := 33) rfl dX6_enter_33 (hM.k22) rfl ?_
    refine z_iconst_5 (pc := 36) dX6_enter_36 ?_
    refine z_aload_n (pc := 37) dX6_enter_37 rfl (by first | rfl | exact z_isr_rf _) ?_
    refine gfX6_67 (pc := 38) rfl dX6_enter_38 (hM.k22) rfl ?_
    refine z_imul (pc := 41) dX6_enter_41 ?_
    refine z_iload_n (pc := 42) dX6_enter_42 rfl ?_
    refine z_iadd (pc := 43) dX6_enter_43 ?_
    rw [e0, e]
    refine z_sipush_1000 (pc := 44) dX6_enter_44 ?_
    refine z_iast (pc := 47) dX6_enter_47 (hM.k3) (vp_in_nI (by omega) (by omega)) ?_
    rw [nI_clamp (show 5 * n + i < 2 ^ 31 by omega)]
    refine z_genM (hM.p3 (5 * n + i) 1000) (fun w2 hM2 hf2 => ?_)
    refine z_iinc1 (pc := 48) dX6_enter_48 ?_
    refine z_goto (pc := 51) (tgt := 27) dX6_enter_51 (by decide) ?_
    rw [nI_1]
    exact ih w2 hM2 (hf.tr hf2)
theorem mX6_enter (hM : z_Mo G F A M w) {n : Nat} (h0 : M 0 0 = nI n) (hn : n ≤ 8) : z_M G zX6_enter 1 [.ref (A 22 0 0)] w 0 0 (fun v w' => z_fr F w w' ∧ ((n < 8 ∧ v = some (.int (nI n)) ∧ z_Mo G F A (z_sM (z_mr (z_sM M 21 0 0) n 5) 0 0 (nI (n + 1))) w') ∨ (¬ n < 8 ∧ v = some (.int 0) ∧ z_Mo G F A (z_sM M 21 0 1) w'))) z_nx := by
  refine z_M.of (by decide +kernel) rfl (by intro v hv; simp only [List.mem_cons, List.not_mem_nil, or_false] at hv; rcases hv with rfl <;> first | rfl | exact z_isr_cat (z_isr_rf _)) (Nat.le_of_ble_eq_true rfl) ?_
  show z_E _ zX6_enter _ _ 0 [some (.ref (A 22 0 0)), none] [] _ _ _
  have fin : ∀ a : Int32, a = z_b (n < 8) → z_E G zX6_enter 1 (z_mq G (fun v w' => z_fr F w w' ∧ ((n < 8 ∧ v = some (.int (nI n)) ∧ z_Mo G F A (z_sM (z_mr (z_sM M 21 0 0) n 5) 0 0 (nI (n + 1))) w') ∨ (¬ n < 8 ∧ v = some (.int 0) ∧ z_Mo G F A (z_sM M 21 0 1) w'))) z_nx) 15 [some (.ref (A 22 0 0)), none] [.int a, .ref (A 22 0 0)] w 0 0 := by
    intro a ha
    refine z_iconst_1 (pc := 15) dX6_enter_15 ?_
    refine z_iconst_1 (pc := 16) dX6_enter_16 ?_
    refine z_callV (pc := 17) (mX6_goes hM ha z_tt z_tt) dX6_enter_17 cwX6_91 okX6_goes rfl (hM.k22) rfl rfl (by omega) rfl (Nat.le_of_ble_eq_true rfl) (by omega) (by omega) (fun _ _ h => h.elim) (fun v wN hN => ?_)
    obtain ⟨rfl, hM2, hf2⟩ := hN
    rw [z_b_a]
    refine z_if_ne (pc := 20) (tgt := 25) dX6_enter_20 (by decide) (fun hc => ?_) (fun hc => ?_)
    · have h8 := z_b_1 hc
      rw [z_go_0 h8 trivial trivial] at hM2
      refine z_iconst_0 (pc := 25) dX6_enter_25 ?_
      refine z_istore1 (pc := 26) dX6_enter_26 ?_
      exact iX6_enter (M := z_sM M 21 0 0) (w0 := w) h0 h8 (fun w' a1 a2 => ⟨a1, Or.inl ⟨h8, rfl, a2⟩⟩) 5 0 rfl (by omega) wN hM2 hf2
    · have h8 := z_b_0 hc
      rw [z_go_1 h8] at hM2
      refine z_iconst_0 (pc := 23) dX6_enter_23 ?_
      refine z_iret (pc := 24) dX6_enter_24 rfl (⟨hf2, Or.inr ⟨h8, rfl, hM2⟩⟩)
  refine z_aload_n (pc := 0) dX6_enter_0 rfl (by first | rfl | exact z_isr_rf _) ?_
  refine z_aload_n (pc := 1) dX6_enter_1 rfl (by first | rfl | exact z_isr_rf _) ?_
  refine gfX6_67 (pc := 2) rfl dX6_enter_2 (hM.k22) rfl ?_
  refine z_bipush_8 (pc := 5) dX6_enter_5 ?_
  rw [h0]
  refine z_icmp_ge (pc := 7) (tgt := 14) dX6_enter_7 (by decide) (fun hc => ?_) (fun hc => ?_)
  · have hc := (nI_leI (a := 8) (b := n) (by omega) (by omega)).1 hc
    refine z_iconst_0 (pc := 14) dX6_enter_14 ?_
    exact fin 0 (z_b_f (by omega)).symm
  · have hc : ¬ 8 ≤ n := fun z => hc ((nI_leI (a := 8) (b := n) (by omega) (by omega)).2 z)
    refine z_iconst_1 (pc := 10) dX6_enter_10 ?_
    refine z_goto (pc := 11) (tgt := 15) dX6_enter_11 (by decide) ?_
    exact fin 1 (z_b_t (by omega)).symm
theorem mX6_begin (hM : z_Mo G F A M w) {n g : Nat} (h0 : M 0 0 = nI n) (hn : n ≤ 8) (h5 : M 5 0 = nI g) (hg : g ≤ 60) (x y : Int32) : z_M G zX6_begin 2 [.ref (A 22 0 0), .int x, .int y] w 0 0 (fun v w' => z_fr F w w' ∧ ((((z_rg x n ∧ z_rg y n) ∧ x ≠ y ∧ (M 6 0 = 0 ∧ g < 60)) ∧ v = some (.int (nI g)) ∧ z_Mo G F A (z_mb M g x y) w') ∨ (¬ ((z_rg x n ∧ z_rg y n) ∧ x ≠ y ∧ (M 6 0 = 0 ∧ g < 60)) ∧ v = some (.int 0) ∧ z_Mo G F A (z_sM M 21 0 (z_go (z_rg x n ∧ z_rg y n) (x ≠ y) (M 6 0 = 0 ∧ g < 60))) w'))) z_nx := by
  refine z_M.of (by decide +kernel) rfl (by intro v hv; simp only [List.mem_cons, List.not_mem_nil, or_false] at hv; rcases hv with rfl | rfl | rfl <;> first | rfl | exact z_isr_cat (z_isr_rf _)) (Nat.le_of_ble_eq_true rfl) ?_
  show z_E _ zX6_begin _ _ 0 [some (.ref (A 22 0 0)), some (.int x), some (.int y)] [] _ _ _
  have fin : ∀ a b c : Int32, a = z_b (z_rg x n ∧ z_rg y n) → b = z_b (x ≠ y) → c = z_b (M 6 0 = 0 ∧ g < 60) → z_E G zX6_begin 2 (z_mq G (fun v w' => z_fr F w w' ∧ ((((z_rg x n ∧ z_rg y n) ∧ x ≠ y ∧ (M 6 0 = 0 ∧ g < 60)) ∧ v = some (.int (nI g)) ∧ z_Mo G F A (z_mb M g x y) w') ∨ (¬ ((z_rg x n ∧ z_rg y n) ∧ x ≠ y ∧ (M 6 0 = 0 ∧ g < 60)) ∧ v = some (.int 0) ∧ z_Mo G F A (z_sM M 21 0 (z_go (z_rg x n ∧ z_rg y n) (x ≠ y) (M 6 0 = 0 ∧ g < 60))) w'))) z_nx) 53 [some (.ref (A 22 0 0)), some (.int x), some (.int y)] [.int c, .int b, .int a, .ref (A 22 0 0)] w 0 0 := by
    intro a b c ha hb hc
    refine z_callV (pc := 53) (mX6_goes hM ha hb hc) dX6_begin_53 cwX6_91 okX6_goes rfl (hM.k22) rfl rfl (by omega) rfl (Nat.le_of_ble_eq_true rfl) (by omega) (by omega) (fun _ _ h => h.elim) (fun v wN hN => ?_)
    obtain ⟨rfl, hM2, hf2⟩ := hN
    refine z_if_ne (pc := 56) (tgt := 61) dX6_begin_56 (by decide) (fun hd => ?_) (fun hd => ?_)
    · have hP := z_b_1 hd
      rw [z_go_0 hP.1 hP.2.1 hP.2.2] at hM2
      have hg2 := hP.2.2.2
      have h5' : z_sM M 21 0 0 5 0 = nI g := h5
      refine z_aload_n (pc := 61) dX6_begin_61 rfl (by first | rfl | exact z_isr_rf _) ?_
      refine gfX6_23 (pc := 62) rfl dX6_begin_62 (hM2.k22) rfl ?_
      refine z_aload_n (pc := 65) dX6_begin_65 rfl (by first | rfl | exact z_isr_rf _) ?_
      refine gfX6_95 (pc := 66) rfl dX6_begin_66 (hM2.k22) rfl ?_
      rw [h5']
      refine z_iload_n (pc := 69) dX6_begin_69 rfl ?_
      refine z_iast (pc := 70) dX6_begin_70 (hM2.k8) (vp_in_nI hg2 (by omega)) ?_
      rw [nI_clamp (show g < 2 ^ 31 by omega)]
      refine z_genM (hM2.p8 g x) (fun w3 hM3 hf3 => ?_)
      refine z_aload_n (pc := 71) dX6_begin_71 rfl (by first | rfl | exact z_isr_rf _) ?_
      refine gfX6_26 (pc := 72) rfl dX6_begin_72 (hM3.k22) rfl ?_
      refine z_aload_n (pc := 75) dX6_begin_75 rfl (by first | rfl | exact z_isr_rf _) ?_
      refine gfX6_95 (pc := 76) rfl dX6_begin_76 (hM3.k22) rfl ?_
      rw [show z_sM (z_sM M 21 0 0) 8 g x 5 0 = nI g from h5]
      refine z_iload_n (pc := 79) dX6_begin_79 rfl ?_
      refine z_iast (pc := 80) dX6_begin_80 (hM3.k9) (vp_in_nI hg2 (by omega)) ?_
      rw [nI_clamp (show g < 2 ^ 31 by omega)]
      refine z_genM (hM3.p9 g y) (fun w4 hM4 hf4 => ?_)
      refine z_aload_n (pc := 81) dX6_begin_81 rfl (by first | rfl | exact z_isr_rf _) ?_
      refine z_iconst_1 (pc := 82) dX6_begin_82 ?_
      refine pfX6_98 (pc := 83) rfl dX6_begin_83 (Or.inr rfl) (hM4.k22) (Nat.le_of_ble_eq_true rfl) ?_
      refine z_genM (hM4.p6 1) (fun w5 hM5 hf5 => ?_)
      refine z_aload_n (pc := 86) dX6_begin_86 rfl (by first | rfl | exact z_isr_rf _) ?_
      refine z_iconst_1 (pc := 87) dX6_begin_87 ?_
      refine pfX6_105 (pc := 88) rfl dX6_begin_88 (hM5.k22) (Nat.le_of_ble_eq_true rfl) ?_
      refine z_genM (hM5.p7 1) (fun w6 hM6 hf6 => ?_)
      refine z_aload_n (pc := 91) dX6_begin_91 rfl (by first | rfl | exact z_isr_rf _) ?_
      refine z_dup (pc := 92) dX6_begin_92 (by first | rfl | exact z_isr_cat (z_isr_rf _)) ?_
      refine gfX6_95 (pc := 93) rfl dX6_begin_93 (hM6.k22) rfl ?_
      refine z_iconst_1 (pc := 96) dX6_begin_96 ?_
      refine z_iadd (pc := 97) dX6_begin_97 ?_
      rw [show z_sM (z_sM (z_sM (z_sM (z_sM M 21 0 0) 8 g x) 9 g y) 6 0 1) 7 0 1 5 0 = nI g from h5, nI_1]
      refine pfX6_95 (pc := 98) rfl dX6_begin_98 (hM6.k22) (Nat.le_of_ble_eq_true rfl) ?_
      refine z_genM (hM6.p5 (nI (g + 1))) (fun w7 hM7 hf7 => ?_)
      refine z_aload_n (pc := 101) dX6_begin_101 rfl (by first | rfl | exact z_isr_rf _) ?_
      refine gfX6_95 (pc := 102) rfl dX6_begin_102 (hM7.k22) rfl ?_
      refine z_iconst_1 (pc := 105) dX6_begin_105 ?_
      refine z_isub (pc := 106) dX6_begin_106 ?_
      rw [z_sM_s, z_upd_s, ← nI_1 g, Int32.add_sub_cancel]
      refine z_iret (pc := 107) dX6_begin_107 rfl (⟨hf2.tr (hf3.tr (hf4.tr (hf5.tr (hf6.tr hf7)))), Or.inl ⟨hP, rfl, hM7⟩⟩)
    · have hP := z_b_0 hd
      refine z_iconst_0 (pc := 59) dX6_begin_59 ?_
      refine z_iret (pc := 60) dX6_begin_60 rfl (⟨hf2, Or.inr ⟨hP, rfl, hM2⟩⟩)
  have fin3 : ∀ a b : Int32, a = z_b (z_rg x n ∧ z_rg y n) → b = z_b (x ≠ y) → z_E G zX6_begin 2 (z_mq G (fun v w' => z_fr F w w' ∧ ((((z_rg x n ∧ z_rg y n) ∧ x ≠ y ∧ (M 6 0 = 0 ∧ g < 60)) ∧ v = some (.int (nI g)) ∧ z_Mo G F A (z_mb M g x y) w') ∨ (¬ ((z_rg x n ∧ z_rg y n) ∧ x ≠ y ∧ (M 6 0 = 0 ∧ g < 60)) ∧ v = some (.int 0) ∧ z_Mo G F A (z_sM M 21 0 (z_go (z_rg x n ∧ z_rg y n) (x ≠ y) (M 6 0 = 0 ∧ g < 60))) w'))) z_nx) 32 [some (.ref (A 22 0 0)), some (.int x), some (.int y)] [.int b, .int a, .ref (A 22 0 0)] w 0 0 := by
    intro a b ha hb
    refine z_aload_n (pc := 32) dX6_begin_32 rfl (by first | rfl | exact z_isr_rf _) ?_
    refine gfX6_98 (pc := 33) rfl dX6_begin_33 (hM.k22) rfl ?_
    refine z_if_ne (pc := 36) (tgt := 52) dX6_begin_36 (by decide) (fun hc => ?_) (fun hc => ?_)
    · refine z_iconst_0 (pc := 52) dX6_begin_52 ?_
      exact fin a b 0 ha hb (z_b_f (fun z => hc z.1)).symm
    · refine z_aload_n (pc := 39) dX6_begin_39 rfl (by first | rfl | exact z_isr_rf _) ?_
      refine gfX6_95 (pc := 40) rfl dX6_begin_40 (hM.k22) rfl ?_
      refine z_bipush_60 (pc := 43) dX6_begin_43 ?_
      rw [h5]
      refine z_icmp_ge (pc := 45) (tgt := 52) dX6_begin_45 (by decide) (fun hd => ?_) (fun hd => ?_)
      · have hd := (nI_leI (a := 60) (b := g) (by omega) (by omega)).1 hd
        refine z_iconst_0 (pc := 52) dX6_begin_52 ?_
        exact fin a b 0 ha hb (z_b_f (fun z => by omega)).symm
      · have hd : ¬ 60 ≤ g := fun z => hd ((nI_leI (a := 60) (b := g) (by omega) (by omega)).2 z)
        refine z_iconst_1 (pc := 48) dX6_begin_48 ?_
        refine z_goto (pc := 49) (tgt := 53) dX6_begin_49 (by decide) ?_
        exact fin a b 1 ha hb (z_b_t ⟨hc, by omega⟩).symm
  have fin2 : ∀ a : Int32, a = z_b (z_rg x n ∧ z_rg y n) → z_E G zX6_begin 2 (z_mq G (fun v w' => z_fr F w w' ∧ ((((z_rg x n ∧ z_rg y n) ∧ x ≠ y ∧ (M 6 0 = 0 ∧ g < 60)) ∧ v = some (.int (nI g)) ∧ z_Mo G F A (z_mb M g x y) w') ∨ (¬ ((z_rg x n ∧ z_rg y n) ∧ x ≠ y ∧ (M 6 0 = 0 ∧ g < 60)) ∧ v = some (.int 0) ∧ z_Mo G F A (z_sM M 21 0 (z_go (z_rg x n ∧ z_rg y n) (x ≠ y) (M 6 0 = 0 ∧ g < 60))) w'))) z_nx) 22 [some (.ref (A 22 0 0)), some (.int x), some (.int y)] [.int a, .ref (A 22 0 0)] w 0 0 := by
    intro a ha
    refine z_iload_n (pc := 22) dX6_begin_22 rfl ?_
    refine z_iload_n (pc := 23) dX6_begin_23 rfl ?_
    refine z_icmp_eq (pc := 24) (tgt := 31) dX6_begin_24 (by decide) (fun hc => ?_) (fun hc => ?_)
    · refine z_iconst_0 (pc := 31) dX6_begin_31 ?_
      exact fin3 a 0 ha (z_b_f (fun z => z hc)).symm
    · refine z_iconst_1 (pc := 27) dX6_begin_27 ?_
      refine z_goto (pc := 28) (tgt := 32) dX6_begin_28 (by decide) ?_
      exact fin3 a 1 ha (z_b_t hc).symm
  refine z_aload_n (pc := 0) dX6_begin_0 rfl (by first | rfl | exact z_isr_rf _) ?_
  refine z_aload_n (pc := 1) dX6_begin_1 rfl (by first | rfl | exact z_isr_rf _) ?_
  refine z_iload_n (pc := 2) dX6_begin_2 rfl ?_
  refine z_callVp (pc := 3) (mX6_isPlayer hM h0 (by omega) x) dX6_begin_3 cwX6_102 okX6_isPlayer rfl (hM.k22) rfl rfl (by omega) rfl (Nat.le_of_ble_eq_true rfl) ?_
  refine z_if_eq (pc := 6) (tgt := 21) dX6_begin_6 (by decide) (fun hc => ?_) (fun hc => ?_)
  · refine z_iconst_0 (pc := 21) dX6_begin_21 ?_
    exact fin2 0 (z_b_f (fun z => z_b_0 hc z.1)).symm
  · refine z_aload_n (pc := 9) dX6_begin_9 rfl (by first | rfl | exact z_isr_rf _) ?_
    refine z_iload_n (pc := 10) dX6_begin_10 rfl ?_
    refine z_callVp (pc := 11) (mX6_isPlayer hM h0 (by omega) y) dX6_begin_11 cwX6_102 okX6_isPlayer rfl (hM.k22) rfl rfl (by omega) rfl (Nat.le_of_ble_eq_true rfl) ?_
    refine z_if_eq (pc := 14) (tgt := 21) dX6_begin_14 (by decide) (fun hd => ?_) (fun hd => ?_)
    · refine z_iconst_0 (pc := 21) dX6_begin_21 ?_
      exact fin2 0 (z_b_f (fun z => z_b_0 hd z.2)).symm
    · refine z_iconst_1 (pc := 17) dX6_begin_17 ?_
      refine z_goto (pc := 18) (tgt := 22) dX6_begin_18 (by decide) ?_
      exact fin2 1 (z_b_t ⟨z_b_1 hc, z_b_1 hd⟩).symm
theorem mX6_move (hM : z_Mo G F A M w) {g c : Nat} (hg : g < 60) (hc12 : c ≤ 12) (h5 : M 6 0 ≠ 0 → M 5 0 = nI (g + 1) ∧ M 10 g = nI c) (x : Int32) : z_M G zX6_move 4 [.ref (A 22 0 0), .int x] w 0 0 (fun v w' => z_fr F w w' ∧ (((z_rg x 4 ∧ (M 6 0 ≠ 0 ∧ c < 12)) ∧ v = some (.int (blM (M 7 0) x)) ∧ z_Mo G F A (z_mv1 M g c x) w') ∨ (¬ (z_rg x 4 ∧ (M 6 0 ≠ 0 ∧ c < 12)) ∧ v = some (.int 0) ∧ z_Mo G F A (z_sM M 21 0 (z_go (z_rg x 4) (M 6 0 ≠ 0 ∧ c < 12) True)) w'))) z_nx := by
  refine z_M.of (by decide +kernel) rfl (by intro v hv; simp only [List.mem_cons, List.not_mem_nil, or_false] at hv; rcases hv with rfl | rfl <;> first | rfl | exact z_isr_cat (z_isr_rf _)) (Nat.le_of_ble_eq_true rfl) ?_
  show z_E _ zX6_move _ _ 0 [some (.ref (A 22 0 0)), some (.int x), none, none] [] _ _ _
  have fin : ∀ a b : Int32, a = z_b (z_rg x 4) → b = z_b (M 6 0 ≠ 0 ∧ c < 12) → z_E G zX6_move 4 (z_mq G (fun v w' => z_fr F w w' ∧ (((z_rg x 4 ∧ (M 6 0 ≠ 0 ∧ c < 12)) ∧ v = some (.int (blM (M 7 0) x)) ∧ z_Mo G F A (z_mv1 M g c x) w') ∨ (¬ (z_rg x 4 ∧ (M 6 0 ≠ 0 ∧ c < 12)) ∧ v = some (.int 0) ∧ z_Mo G F A (z_sM M 21 0 (z_go (z_rg x 4) (M 6 0 ≠ 0 ∧ c < 12) True)) w'))) z_nx) 33 [some (.ref (A 22 0 0)), some (.int x), none, none] [.int b, .int a, .ref (A 22 0 0)] w 0 0 := by
    intro a b ha hb
    refine z_iconst_1 (pc := 33) dX6_move_33 ?_
    refine z_callV (pc := 34) (mX6_goes hM ha hb z_tt) dX6_move_34 cwX6_91 okX6_goes rfl (hM.k22) rfl rfl (by omega) rfl (Nat.le_of_ble_eq_true rfl) (by omega) (by omega) (fun _ _ h => h.elim) (fun v wN hN => ?_)
    obtain ⟨rfl, hM2, hf2⟩ := hN
    rw [z_b_a2]
    refine z_if_ne (pc := 37) (tgt := 42) dX6_move_37 (by decide) (fun hd => ?_) (fun hd => ?_)
    · have hP := z_b_1 hd
      rw [z_go_0 hP.1 hP.2 trivial] at hM2
      obtain ⟨h5a, h10⟩ := h5 hP.2.1
      have hc := hP.2.2
      refine z_aload_n (pc := 42) dX6_move_42 rfl (by first | rfl | exact z_isr_rf _) ?_
      refine gfX6_95 (pc := 43) rfl dX6_move_43 (hM2.k22) rfl ?_
      refine z_iconst_1 (pc := 46) dX6_move_46 ?_
      refine z_isub (pc := 47) dX6_move_47 ?_
      rw [show z_sM M 21 0 0 5 0 = nI g + 1 from h5a.trans (nI_1 g).symm, Int32.add_sub_cancel]
      refine z_istore2 (pc := 48) dX6_move_48 ?_
      refine z_aload_n (pc := 49) dX6_move_49 rfl (by first | rfl | exact z_isr_rf _) ?_
      refine gfX6_105 (pc := 50) rfl dX6_move_50 (hM2.k22) rfl ?_
      refine z_iload_n (pc := 53) dX6_move_53 rfl ?_
      refine z_callSp (pc := 54) (mX6_isBlunder G _ (M 7 0) x) dX6_move_54 cwX6_108 okX6_isBlunder rfl (by omega) rfl (Nat.le_of_ble_eq_true rfl) ?_
      have e : (12 : Int32) * nI g + nI c = nI (12 * g + c) := by
        rw [show (12 : Int32) = nI 12 from rfl, z_nm, nI_add]
      refine z_istore3 (pc := 57) dX6_move_57 ?_
      refine z_aload_n (pc := 58) dX6_move_58 rfl (by first | rfl | exact z_isr_rf _) ?_
      refine gfX6_35 (pc := 59) rfl dX6_move_59 (hM2.k22) rfl ?_
      refine z_bipush_12 (pc := 62) dX6_move_62 ?_
      refine z_iload_n (pc := 64) dX6_move_64 rfl ?_
      refine z_imul (pc := 65) dX6_move_65 ?_
      refine z_aload_n (pc := 66) dX6_move_66 rfl (by first | rfl | exact z_isr_rf _) ?_
      refine gfX6_29 (pc := 67) rfl dX6_move_67 (hM2.k22) rfl ?_
      refine z_iload_n (pc := 70) dX6_move_70 rfl ?_
      refine z_iald (pc := 71) dX6_move_71 (hM2.k10) (vp_in_nI hg (by omega)) ?_
      rw [nI_clamp (show g < 2 ^ 31 by omega), show z_sM M 21 0 0 10 g = nI c from h10]
      refine z_iadd (pc := 72) dX6_move_72 ?_
      rw [e]
      refine z_iload_n (pc := 73) dX6_move_73 rfl ?_
      refine z_iast (pc := 74) dX6_move_74 (hM2.k12) (vp_in_nI (by omega) (by omega)) ?_
      rw [nI_clamp (show 12 * g + c < 2 ^ 31 by omega)]
      refine z_genM (hM2.p12 (12 * g + c) x) (fun w3 hM3 hf3 => ?_)
      refine z_aload_n (pc := 75) dX6_move_75 rfl (by first | rfl | exact z_isr_rf _) ?_
      refine gfX6_29 (pc := 76) rfl dX6_move_76 (hM3.k22) rfl ?_
      refine z_iload_n (pc := 79) dX6_move_79 rfl ?_
      refine z_dup2 (pc := 80) dX6_move_80 (by first | rfl | exact z_isr_cat (z_isr_rf _)) (by first | rfl | exact z_isr_cat (z_isr_rf _)) ?_
      refine z_iald (pc := 81) dX6_move_81 (hM3.k10) (vp_in_nI hg (by omega)) ?_
      rw [nI_clamp (show g < 2 ^ 31 by omega), show z_sM (z_sM M 21 0 0) 12 (12 * g + c) x 10 g = nI c from h10]
      refine z_iconst_1 (pc := 82) dX6_move_82 ?_
      refine z_iadd (pc := 83) dX6_move_83 ?_
      rw [nI_1]
      refine z_iast (pc := 84) dX6_move_84 (hM3.k10) (vp_in_nI hg (by omega)) ?_
      rw [nI_clamp (show g < 2 ^ 31 by omega)]
      refine z_genM (hM3.p10 g (nI (c + 1))) (fun w4 hM4 hf4 => ?_)
      refine z_aload_n (pc := 85) dX6_move_85 rfl (by first | rfl | exact z_isr_rf _) ?_
      refine z_aload_n (pc := 86) dX6_move_86 rfl (by first | rfl | exact z_isr_rf _) ?_
      refine gfX6_105 (pc := 87) rfl dX6_move_87 (hM4.k22) rfl ?_
      refine z_iload_n (pc := 90) dX6_move_90 rfl ?_
      refine z_callSp (pc := 91) (mX6_next G _ (M 7 0) x) dX6_move_91 cwX6_73 okX6_next rfl (by omega) rfl (Nat.le_of_ble_eq_true rfl) ?_
      refine pfX6_105 (pc := 94) rfl dX6_move_94 (hM4.k22) (Nat.le_of_ble_eq_true rfl) ?_
      refine z_genM (hM4.p7 (nx (M 7 0) x)) (fun w5 hM5 hf5 => ?_)
      refine z_iload_n (pc := 97) dX6_move_97 rfl ?_
      refine z_zret (pc := 98) dX6_move_98 rfl (z_01 _ ) ( ⟨hf2.tr (hf3.tr (hf4.tr hf5)), Or.inl ⟨hP, rfl, hM5⟩⟩)
    · have hP := z_b_0 hd
      refine z_iconst_0 (pc := 40) dX6_move_40 ?_
      refine z_zret (pc := 41) dX6_move_41 rfl (Or.inl rfl ) ( ⟨hf2, Or.inr ⟨hP, rfl, hM2⟩⟩)
  refine z_aload_n (pc := 0) dX6_move_0 rfl (by first | rfl | exact z_isr_rf _) ?_
  refine z_iload_n (pc := 1) dX6_move_1 rfl ?_
  refine z_callSp (pc := 2) (mX6_isMove (G := G) x) dX6_move_2 cwX6_88 okX6_isMove rfl (by omega) rfl (Nat.le_of_ble_eq_true rfl) ?_
  refine z_aload_n (pc := 5) dX6_move_5 rfl (by first | rfl | exact z_isr_rf _) ?_
  refine gfX6_98 (pc := 6) rfl dX6_move_6 (hM.k22) rfl ?_
  refine z_if_eq (pc := 9) (tgt := 32) dX6_move_9 (by decide) (fun hc => ?_) (fun hc => ?_)
  · refine z_iconst_0 (pc := 32) dX6_move_32 ?_
    exact fin _ 0 rfl (z_b_f (fun z => z.1 hc)).symm
  · obtain ⟨h5a, h10⟩ := h5 hc
    refine z_aload_n (pc := 12) dX6_move_12 rfl (by first | rfl | exact z_isr_rf _) ?_
    refine gfX6_29 (pc := 13) rfl dX6_move_13 (hM.k22) rfl ?_
    refine z_aload_n (pc := 16) dX6_move_16 rfl (by first | rfl | exact z_isr_rf _) ?_
    refine gfX6_95 (pc := 17) rfl dX6_move_17 (hM.k22) rfl ?_
    refine z_iconst_1 (pc := 20) dX6_move_20 ?_
    rw [h5a, ← nI_1 g]
    refine z_isub (pc := 21) dX6_move_21 ?_
    rw [Int32.add_sub_cancel]
    refine z_iald (pc := 22) dX6_move_22 (hM.k10) (vp_in_nI hg (by omega)) ?_
    refine z_bipush_12 (pc := 23) dX6_move_23 ?_
    rw [nI_clamp (show g < 2 ^ 31 by omega), h10]
    refine z_icmp_ge (pc := 25) (tgt := 32) dX6_move_25 (by decide) (fun hd => ?_) (fun hd => ?_)
    · have hd := (nI_leI (a := 12) (b := c) (by omega) (by omega)).1 hd
      refine z_iconst_0 (pc := 32) dX6_move_32 ?_
      exact fin _ 0 rfl (z_b_f (fun z => by omega)).symm
    · have hd : ¬ 12 ≤ c := fun z => hd ((nI_leI (a := 12) (b := c) (by omega) (by omega)).2 z)
      refine z_iconst_1 (pc := 28) dX6_move_28 ?_
      refine z_goto (pc := 29) (tgt := 33) dX6_move_29 (by decide) ?_
      exact fin _ 1 rfl (z_b_t ⟨hc, by omega⟩).symm
end MAC

