/-! .. more of them -/
section WRP3
variable {G : z_G} {A : z_TA} {I : z_TI} {N : z_TN} {O : z_TO} {B : z_TB} {A6 : z_TA} {M : z_TM} {qo qd : Nat} {vo : Nat → Int64} {vd : Nat → UInt64} {w : z_W}
theorem wL_enter (h : z_LW G A I N O B A6 M qo qd vo vd w) (hJ : z_J I N O B M) : z_MW G zL_enter 8 [.ref (A 0 0 0), .ref qo] w 24 84 (z_kq G A A6 M qo qd vd (z_Qenter I N O B)) z_nx := by
  have hC := h.1
  have hS := hJ.1
  have h8 : N 6 0 ≤ 8 := by rw [hS.1]; exact hS.2.2.2.1
  have h40 : N 8 0 ≤ 40 := by rw [hS.2.2.1]; exact hS.2.2.2.2.2.1
  refine z_MW.of (by decide +kernel) (by intro v hv; simp only [List.mem_cons, List.not_mem_nil, or_false] at hv; rcases hv with rfl | rfl <;> first | rfl | exact z_isr_cat (z_isr_rf _)) (Nat.le_of_ble_eq_true rfl) ?_
  show z_E _ zL_enter _ _ 0 [some (.ref (A 0 0 0)), some (.ref qo), none] [] _ _ _
  refine z_aload_n (pc := 0) dL_enter_0 rfl (by first | rfl | exact z_isr_rf _) ?_
  refine z_iconst_0 (pc := 1) dL_enter_1 ?_
  refine z_aload_n (pc := 2) dL_enter_2 rfl (by first | rfl | exact z_isr_rf _) ?_
  refine z_callV (pc := 3) (mX5_enter hC hS) dL_enter_3 cwL_22 okX5_enter rfl hC.k0 rfl rfl (by omega) rfl (Nat.le_of_ble_eq_true rfl) (by omega) (by omega) (fun E wN hN => ?_) (fun v wN hN => ?_)
  · obtain ⟨rfl, rfl, hP⟩ := hN
    refine z_Xat (x := ⟨0, 8, 11, 26⟩) (pre := []) (suf := []) z_cISE rfl (fun _ h => absurd h List.not_mem_nil) (by decide) (by decide) z_cl26 (fun q => ?_)
    show z_E _ zL_enter _ _ 11 _ _ _ _ _
    refine z_astore2 (pc := 11) dL_enter_11 (by first | rfl | exact z_isr_rf _) ?_
    refine z_iconst_1 (pc := 12) dL_enter_12 ?_
    refine z_iret (pc := 13) dL_enter_13 rfl (⟨1, 0, A, I, N, O, B, vo, rfl, Or.inr ⟨⟨rfl, rfl, rfl, rfl⟩, Or.inl ⟨hP, rfl⟩⟩, fun z => absurd z (by decide), rfl, h⟩)
  · obtain ⟨rfl, hn8, hf2, A', hA, hC2⟩ := hN
    have hW := h.cls hC2 hf2
    refine z_i2l (pc := 6) dL_enter_6 ?_
    refine z_last (pc := 7) dL_enter_7 (hW.2.2.1) (z_v01) ?_
    refine z_goto (pc := 8) (tgt := 14) dL_enter_8 (by decide) ?_
    refine z_iconst_0 (pc := 14) dL_enter_14 ?_
    refine z_iret (pc := 15) dL_enter_15 rfl (⟨0, nI (N 0 0), A', _, _, _, _, _, rfl, Or.inl ⟨hn8, rfl, rfl, rfl, rfl, rfl, rfl⟩, fun _ => z_up0 _ _, hA, hW.out _⟩)
theorem wL_begin (h : z_LW G A I N O B A6 M qo qd vo vd w) (hJ : z_J I N O B M) (x y : Int32) : z_MW G zL_begin 8 [.ref (A 0 0 0), .int x, .int y, .ref qo] w 24 84 (z_kq G A A6 M qo qd vd (z_Qbegin x y I N O B)) z_nx := by
  have hC := h.1
  have hS := hJ.1
  have h8 : N 6 0 ≤ 8 := by rw [hS.1]; exact hS.2.2.2.1
  have h40 : N 8 0 ≤ 40 := by rw [hS.2.2.1]; exact hS.2.2.2.2.2.1
  refine z_MW.of (by decide +kernel) (by intro v hv; simp only [List.mem_cons, List.not_mem_nil, or_false] at hv; rcases hv with rfl | rfl | rfl | rfl <;> first | rfl | exact z_isr_cat (z_isr_rf _)) (Nat.le_of_ble_eq_true rfl) ?_
  show z_E _ zL_begin _ _ 0 [some (.ref (A 0 0 0)), some (.int x), some (.int y), some (.ref qo), none] [] _ _ _
  refine z_aload_n (pc := 0) dL_begin_0 rfl (by first | rfl | exact z_isr_rf _) ?_
  refine z_iconst_0 (pc := 1) dL_begin_1 ?_
  refine z_aload_n (pc := 2) dL_begin_2 rfl (by first | rfl | exact z_isr_rf _) ?_
  refine z_iload_n (pc := 3) dL_begin_3 rfl ?_
  refine z_iload_n (pc := 4) dL_begin_4 rfl ?_
  refine z_callV (pc := 5) (mX5_begin hC hS x y) dL_begin_5 cwL_28 okX5_begin rfl hC.k0 rfl rfl (by omega) rfl (Nat.le_of_ble_eq_true rfl) (by omega) (by omega) (fun E wN hN => ?_) (fun v wN hN => ?_)
  · obtain ⟨rfl, ⟨rfl, hP⟩ | ⟨rfl, hP, hP2⟩ | ⟨rfl, hP, hP2, hP3⟩⟩ := hN
    · refine z_Xat (x := ⟨0, 10, 13, 31⟩) (pre := []) (suf := [⟨0, 10, 17, 13⟩, ⟨0, 10, 21, 26⟩]) z_cIOE rfl (fun _ h => absurd h List.not_mem_nil) (by decide) (by decide) z_cl31 (fun q => ?_)
      show z_E _ zL_begin _ _ 13 _ _ _ _ _
      refine z_astore4 (pc := 13) dL_begin_13 (by first | rfl | exact z_isr_rf _) ?_
      refine z_iconst_1 (pc := 15) dL_begin_15 ?_
      refine z_iret (pc := 16) dL_begin_16 rfl (⟨1, 0, A, I, N, O, B, vo, rfl, Or.inr ⟨⟨rfl, rfl, rfl, rfl⟩, Or.inl ⟨hP, rfl⟩⟩, fun z => absurd z (by decide), rfl, h⟩)
    · refine z_Xat (x := ⟨0, 10, 17, 13⟩) (pre := [⟨0, 10, 13, 31⟩]) (suf := [⟨0, 10, 21, 26⟩]) z_cIAE rfl (List.forall_mem_cons.mpr ⟨⟨by decide, IOE, z_cl31, z_n1⟩, fun _ h => absurd h List.not_mem_nil⟩) (by decide) (by decide) z_cl13 (fun q => ?_)
      show z_E _ zL_begin _ _ 17 _ _ _ _ _
      refine z_astore4 (pc := 17) dL_begin_17 (by first | rfl | exact z_isr_rf _) ?_
      refine z_iconst_2 (pc := 19) dL_begin_19 ?_
      refine z_iret (pc := 20) dL_begin_20 rfl (⟨2, 0, A, I, N, O, B, vo, rfl, Or.inr ⟨⟨rfl, rfl, rfl, rfl⟩, Or.inr (Or.inl ⟨hP, hP2, rfl⟩)⟩, fun z => absurd z (by decide), rfl, h⟩)
    · refine z_Xat (x := ⟨0, 10, 21, 26⟩) (pre := [⟨0, 10, 13, 31⟩, ⟨0, 10, 17, 13⟩]) (suf := []) z_cISE rfl (List.forall_mem_cons.mpr ⟨⟨by decide, IOE, z_cl31, z_n2⟩, List.forall_mem_cons.mpr ⟨⟨by decide, IAE, z_cl13, z_n3⟩, fun _ h => absurd h List.not_mem_nil⟩⟩) (by decide) (by decide) z_cl26 (fun q => ?_)
      show z_E _ zL_begin _ _ 21 _ _ _ _ _
      refine z_astore4 (pc := 21) dL_begin_21 (by first | rfl | exact z_isr_rf _) ?_
      refine z_iconst_3 (pc := 23) dL_begin_23 ?_
      refine z_iret (pc := 24) dL_begin_24 rfl (⟨3, 0, A, I, N, O, B, vo, rfl, Or.inr ⟨⟨rfl, rfl, rfl, rfl⟩, Or.inr (Or.inr ⟨hP, hP2, hP3, rfl⟩)⟩, fun z => absurd z (by decide), rfl, h⟩)
  · obtain ⟨rfl, ho, hn60, hf2, p1, p2, A', hp1, hp2, rfl, rfl, hne, hA, hC2⟩ := hN
    have hW := h.cls hC2 hf2
    refine z_i2l (pc := 8) dL_begin_8 ?_
    refine z_last (pc := 9) dL_begin_9 (hW.2.2.1) (z_v01) ?_
    refine z_goto (pc := 10) (tgt := 25) dL_begin_10 (by decide) ?_
    refine z_iconst_0 (pc := 25) dL_begin_25 ?_
    refine z_iret (pc := 26) dL_begin_26 rfl (⟨0, nI (N 1 0), A', _, _, _, _, _, rfl, Or.inl ⟨p1, p2, hp1, hp2, rfl, rfl, hne, ho, hn60, rfl, rfl, rfl, rfl, rfl, rfl⟩, fun _ => z_up0 _ _, hA, hW.out _⟩)
theorem wL_move (h : z_LW G A I N O B A6 M qo qd vo vd w) (hJ : z_J I N O B M) (x : Int32) : z_MW G zL_move 8 [.ref (A 0 0 0), .int x, .ref qo] w 24 84 (z_kq G A A6 M qo qd vd (z_Qz (z_Qmove x I N O B))) z_nx := by
  have hC := h.1
  have hS := hJ.1
  have h8 : N 6 0 ≤ 8 := by rw [hS.1]; exact hS.2.2.2.1
  have h40 : N 8 0 ≤ 40 := by rw [hS.2.2.1]; exact hS.2.2.2.2.2.1
  refine z_MW.of (by decide +kernel) (by intro v hv; simp only [List.mem_cons, List.not_mem_nil, or_false] at hv; rcases hv with rfl | rfl | rfl <;> first | rfl | exact z_isr_cat (z_isr_rf _)) (Nat.le_of_ble_eq_true rfl) ?_
  show z_E _ zL_move _ _ 0 [some (.ref (A 0 0 0)), some (.int x), some (.ref qo), none] [] _ _ _
  refine z_aload_n (pc := 0) dL_move_0 rfl (by first | rfl | exact z_isr_rf _) ?_
  refine z_iconst_0 (pc := 1) dL_move_1 ?_
  refine z_aload_n (pc := 2) dL_move_2 rfl (by first | rfl | exact z_isr_rf _) ?_
  refine z_iload_n (pc := 3) dL_move_3 rfl ?_
  refine z_callV (pc := 4) (mX5_move hC hS x) dL_move_4 cwL_33 okX5_move rfl hC.k0 rfl rfl (by omega) rfl (Nat.le_of_ble_eq_true rfl) (by omega) (by omega) (fun E wN hN => ?_) (fun v wN hN => ?_)
  · obtain ⟨rfl, ⟨rfl, hP⟩ | ⟨rfl, hP, hP2⟩⟩ := hN
    · refine z_Xat (x := ⟨0, 16, 19, 13⟩) (pre := []) (suf := [⟨0, 16, 22, 26⟩]) z_cIAE rfl (fun _ h => absurd h List.not_mem_nil) (by decide) (by decide) z_cl13 (fun q => ?_)
      show z_E _ zL_move _ _ 19 _ _ _ _ _
      refine z_astore3 (pc := 19) dL_move_19 (by first | rfl | exact z_isr_rf _) ?_
      refine z_iconst_1 (pc := 20) dL_move_20 ?_
      refine z_iret (pc := 21) dL_move_21 rfl (⟨1, 0, A, I, N, O, B, vo, rfl, ⟨Or.inr ⟨⟨rfl, rfl, rfl, rfl⟩, Or.inl ⟨hP, rfl⟩⟩, fun z => absurd z (by decide)⟩, fun z => absurd z (by decide), rfl, h⟩)
    · refine z_Xat (x := ⟨0, 16, 22, 26⟩) (pre := [⟨0, 16, 19, 13⟩]) (suf := []) z_cISE rfl (List.forall_mem_cons.mpr ⟨⟨by decide, IAE, z_cl13, z_n3⟩, fun _ h => absurd h List.not_mem_nil⟩) (by decide) (by decide) z_cl26 (fun q => ?_)
      show z_E _ zL_move _ _ 22 _ _ _ _ _
      refine z_astore3 (pc := 22) dL_move_22 (by first | rfl | exact z_isr_rf _) ?_
      refine z_iconst_2 (pc := 23) dL_move_23 ?_
      refine z_iret (pc := 24) dL_move_24 rfl (⟨2, 0, A, I, N, O, B, vo, rfl, ⟨Or.inr ⟨⟨rfl, rfl, rfl, rfl⟩, Or.inr (Or.inl ⟨hP, hP2, rfl⟩)⟩, fun z => absurd z (by decide)⟩, fun z => absurd z (by decide), rfl, h⟩)
  · obtain ⟨g, ho, h12, hx, rfl, hf2, hC2⟩ := hN
    have hW := h.cls hC2 hf2
    refine z_if_eq (pc := 7) (tgt := 14) dL_move_7 (by decide) (fun hz => ?_) (fun hz => ?_)
    · refine z_lconst0 (pc := 14) dL_move_14 ?_
      refine z_last (pc := 15) dL_move_15 (hW.2.2.1) (z_v01) ?_
      refine z_goto (pc := 16) (tgt := 25) dL_move_16 (by decide) ?_
      refine z_iconst_0 (pc := 25) dL_move_25 ?_
      refine z_iret (pc := 26) dL_move_26 rfl (⟨0, blC (I 6 g 0) x, A, _, _, _, _, _, rfl, ⟨Or.inl ⟨g, ho, h12, hx, rfl, rfl, rfl, rfl, rfl, rfl⟩, fun _ => (show blC (I 6 g 0) x = 0 ∨ blC (I 6 g 0) x = 1 from z_01 _)⟩, fun _ => by rw [z_up0, show ((blC (I 6 g 0) x) : Int32) = 0 from hz]; rfl, rfl, hW.out _⟩)
    · refine z_lconst1 (pc := 10) dL_move_10 ?_
      refine z_goto (pc := 11) (tgt := 15) dL_move_11 (by decide) ?_
      refine z_last (pc := 15) dL_move_15 (hW.2.2.1) (z_v01) ?_
      refine z_goto (pc := 16) (tgt := 25) dL_move_16 (by decide) ?_
      refine z_iconst_0 (pc := 25) dL_move_25 ?_
      refine z_iret (pc := 26) dL_move_26 rfl (⟨0, blC (I 6 g 0) x, A, _, _, _, _, _, rfl, ⟨Or.inl ⟨g, ho, h12, hx, rfl, rfl, rfl, rfl, rfl, rfl⟩, fun _ => (show blC (I 6 g 0) x = 0 ∨ blC (I 6 g 0) x = 1 from z_01 _)⟩, fun _ => by rw [z_up0, ((show blC (I 6 g 0) x = 0 ∨ blC (I 6 g 0) x = 1 from z_01 _)).resolve_left hz]; rfl, rfl, hW.out _⟩)
theorem wL_end (h : z_LW G A I N O B A6 M qo qd vo vd w) (hJ : z_J I N O B M) (x : Int32) : z_MW G zL_end 8 [.ref (A 0 0 0), .int x, .ref qo] w 24 84 (z_kq G A A6 M qo qd vd (z_Qend x I N O B)) z_nx := by
  have hC := h.1
  have hS := hJ.1
  have h8 : N 6 0 ≤ 8 := by rw [hS.1]; exact hS.2.2.2.1
  have h40 : N 8 0 ≤ 40 := by rw [hS.2.2.1]; exact hS.2.2.2.2.2.1
  have hmv : ∀ g i, g < N 1 0 → i < N 5 g → z_rg (I 8 g i) 4 := fun g i a b => ((hJ.2.2.2.1.2.2.2.1 g a).2.2.2.2.2.2 i b).2
  refine z_MW.of (by decide +kernel) (by intro v hv; simp only [List.mem_cons, List.not_mem_nil, or_false] at hv; rcases hv with rfl | rfl | rfl <;> first | rfl | exact z_isr_cat (z_isr_rf _)) (Nat.le_of_ble_eq_true rfl) ?_
  show z_E _ zL_end _ _ 0 [some (.ref (A 0 0 0)), some (.int x), some (.ref qo), none] [] _ _ _
  refine z_aload_n (pc := 0) dL_end_0 rfl (by first | rfl | exact z_isr_rf _) ?_
  refine z_iconst_0 (pc := 1) dL_end_1 ?_
  refine z_aload_n (pc := 2) dL_end_2 rfl (by first | rfl | exact z_isr_rf _) ?_
  refine z_iload_n (pc := 3) dL_end_3 rfl ?_
  refine z_callV (pc := 4) (mX5_end hC hS hJ.2.1 hmv x) dL_end_4 cwL_37 okX5_end rfl hC.k0 rfl rfl (by omega) rfl (Nat.le_of_ble_eq_true rfl) (by omega) (by omega) (fun E wN hN => ?_) (fun v wN hN => ?_)
  · obtain ⟨rfl, ⟨rfl, hP⟩ | ⟨rfl, hP, hP2⟩⟩ := hN
    · refine z_Xat (x := ⟨0, 9, 12, 13⟩) (pre := []) (suf := [⟨0, 9, 15, 26⟩]) z_cIAE rfl (fun _ h => absurd h List.not_mem_nil) (by decide) (by decide) z_cl13 (fun q => ?_)
      show z_E _ zL_end _ _ 12 _ _ _ _ _
      refine z_astore3 (pc := 12) dL_end_12 (by first | rfl | exact z_isr_rf _) ?_
      refine z_iconst_1 (pc := 13) dL_end_13 ?_
      refine z_iret (pc := 14) dL_end_14 rfl (⟨1, 0, A, I, N, O, B, vo, rfl, Or.inr ⟨⟨rfl, rfl, rfl, rfl⟩, Or.inl ⟨hP, rfl⟩⟩, fun z => absurd z (by decide), rfl, h⟩)
    · refine z_Xat (x := ⟨0, 9, 15, 26⟩) (pre := [⟨0, 9, 12, 13⟩]) (suf := []) z_cISE rfl (List.forall_mem_cons.mpr ⟨⟨by decide, IAE, z_cl13, z_n3⟩, fun _ h => absurd h List.not_mem_nil⟩) (by decide) (by decide) z_cl26 (fun q => ?_)
      show z_E _ zL_end _ _ 15 _ _ _ _ _
      refine z_astore3 (pc := 15) dL_end_15 (by first | rfl | exact z_isr_rf _) ?_
      refine z_iconst_2 (pc := 16) dL_end_16 ?_
      refine z_iret (pc := 17) dL_end_17 rfl (⟨2, 0, A, I, N, O, B, vo, rfl, Or.inr ⟨⟨rfl, rfl, rfl, rfl⟩, Or.inr (Or.inl ⟨hP, hP2, rfl⟩)⟩, fun z => absurd z (by decide), rfl, h⟩)
  · obtain ⟨g, ho, hx, hf2, rfl, A', hA, hC2⟩ := hN
    have hW := h.cls hC2 hf2
    refine z_i2l (pc := 7) dL_end_7 ?_
    refine z_last (pc := 8) dL_end_8 (hW.2.2.1) (z_v01) ?_
    refine z_goto (pc := 9) (tgt := 18) dL_end_9 (by decide) ?_
    refine z_iconst_0 (pc := 18) dL_end_18 ?_
    refine z_iret (pc := 19) dL_end_19 rfl (⟨0, _, A', _, _, _, _, _, rfl, Or.inl ⟨g, ho, hx, rfl, rfl, rfl, rfl, rfl, rfl⟩, fun _ => z_up0 _ _, hA, hW.out _⟩)
theorem wL_solve (h : z_LW G A I N O B A6 M qo qd vo vd w) (hJ : z_J I N O B M) (x y m : Int32) : z_MW G zL_solve 8 [.ref (A 0 0 0), .int x, .int y, .int m, .ref qo] w 24 84 (z_kq G A A6 M qo qd vd (z_Qz (z_Qsolve x y m I N O B))) z_nx := by
  have hC := h.1
  have hS := hJ.1
  have h8 : N 6 0 ≤ 8 := by rw [hS.1]; exact hS.2.2.2.1
  have h40 : N 8 0 ≤ 40 := by rw [hS.2.2.1]; exact hS.2.2.2.2.2.1
  refine z_MW.of (by decide +kernel) (by intro v hv; simp only [List.mem_cons, List.not_mem_nil, or_false] at hv; rcases hv with rfl | rfl | rfl | rfl | rfl <;> first | rfl | exact z_isr_cat (z_isr_rf _)) (Nat.le_of_ble_eq_true rfl) ?_
  show z_E _ zL_solve _ _ 0 [some (.ref (A 0 0 0)), some (.int x), some (.int y), some (.int m), some (.ref qo), none] [] _ _ _
  refine z_aload (pc := 0) dL_solve_0 rfl (by first | rfl | exact z_isr_rf _) ?_
  refine z_iconst_0 (pc := 2) dL_solve_2 ?_
  refine z_aload_n (pc := 3) dL_solve_3 rfl (by first | rfl | exact z_isr_rf _) ?_
  refine z_iload_n (pc := 4) dL_solve_4 rfl ?_
  refine z_iload_n (pc := 5) dL_solve_5 rfl ?_
  refine z_iload_n (pc := 6) dL_solve_6 rfl ?_
  refine z_callV (pc := 7) (mX5_solve hC hS hJ.hT x y m) dL_solve_7 cwL_49 okX5_solve rfl hC.k0 rfl rfl (by omega) rfl (Nat.le_of_ble_eq_true rfl) (by omega) (by omega) (fun E wN hN => ?_) (fun v wN hN => ?_)
  · obtain ⟨rfl, ⟨rfl, hP⟩ | ⟨rfl, hP, hP2⟩ | ⟨rfl, hP, hP2, hP3⟩⟩ := hN
    · refine z_Xat (x := ⟨0, 19, 22, 31⟩) (pre := []) (suf := [⟨0, 19, 26, 13⟩, ⟨0, 19, 30, 26⟩]) z_cIOE rfl (fun _ h => absurd h List.not_mem_nil) (by decide) (by decide) z_cl31 (fun q => ?_)
      show z_E _ zL_solve _ _ 22 _ _ _ _ _
      refine z_astore5 (pc := 22) dL_solve_22 (by first | rfl | exact z_isr_rf _) ?_
      refine z_iconst_1 (pc := 24) dL_solve_24 ?_
      refine z_iret (pc := 25) dL_solve_25 rfl (⟨1, 0, A, I, N, O, B, vo, rfl, ⟨Or.inr ⟨⟨rfl, rfl, rfl, rfl⟩, Or.inl ⟨hP, rfl⟩⟩, fun z => absurd z (by decide)⟩, fun z => absurd z (by decide), rfl, h⟩)
    · refine z_Xat (x := ⟨0, 19, 26, 13⟩) (pre := [⟨0, 19, 22, 31⟩]) (suf := [⟨0, 19, 30, 26⟩]) z_cIAE rfl (List.forall_mem_cons.mpr ⟨⟨by decide, IOE, z_cl31, z_n1⟩, fun _ h => absurd h List.not_mem_nil⟩) (by decide) (by decide) z_cl13 (fun q => ?_)
      show z_E _ zL_solve _ _ 26 _ _ _ _ _
      refine z_astore5 (pc := 26) dL_solve_26 (by first | rfl | exact z_isr_rf _) ?_
      refine z_iconst_2 (pc := 28) dL_solve_28 ?_
      refine z_iret (pc := 29) dL_solve_29 rfl (⟨2, 0, A, I, N, O, B, vo, rfl, ⟨Or.inr ⟨⟨rfl, rfl, rfl, rfl⟩, Or.inr (Or.inl ⟨hP, hP2, rfl⟩)⟩, fun z => absurd z (by decide)⟩, fun z => absurd z (by decide), rfl, h⟩)
    · refine z_Xat (x := ⟨0, 19, 30, 26⟩) (pre := [⟨0, 19, 22, 31⟩, ⟨0, 19, 26, 13⟩]) (suf := []) z_cISE rfl (List.forall_mem_cons.mpr ⟨⟨by decide, IOE, z_cl31, z_n2⟩, List.forall_mem_cons.mpr ⟨⟨by decide, IAE, z_cl13, z_n3⟩, fun _ h => absurd h List.not_mem_nil⟩⟩) (by decide) (by decide) z_cl26 (fun q => ?_)
      show z_E _ zL_solve _ _ 30 _ _ _ _ _
      refine z_astore5 (pc := 30) dL_solve_30 (by first | rfl | exact z_isr_rf _) ?_
      refine z_iconst_3 (pc := 32) dL_solve_32 ?_
      refine z_iret (pc := 33) dL_solve_33 rfl (⟨3, 0, A, I, N, O, B, vo, rfl, ⟨Or.inr ⟨⟨rfl, rfl, rfl, rfl⟩, Or.inr (Or.inr ⟨hP, hP2, hP3, rfl⟩)⟩, fun z => absurd z (by decide)⟩, fun z => absurd z (by decide), rfl, h⟩)
  · obtain ⟨p, z, hp, hz2, rfl, rfl, hm, h4, rfl, hf2, hC2⟩ := hN
    have hW := h.cls hC2 hf2
    refine z_if_eq (pc := 10) (tgt := 17) dL_solve_10 (by decide) (fun hz => ?_) (fun hz => ?_)
    · refine z_lconst0 (pc := 17) dL_solve_17 ?_
      refine z_last (pc := 18) dL_solve_18 (hW.2.2.1) (z_v01) ?_
      refine z_goto (pc := 19) (tgt := 34) dL_solve_19 (by decide) ?_
      refine z_iconst_0 (pc := 34) dL_solve_34 ?_
      refine z_iret (pc := 35) dL_solve_35 rfl (⟨0, _, A, _, _, _, _, _, rfl, ⟨Or.inl ⟨p, z, hp, hz2, rfl, rfl, hm, h4, rfl, rfl, rfl, rfl, rfl, rfl⟩, fun _ => z_10 (m = bst (I 9 z 0))⟩, fun _ => by rw [z_up0, hz]; rfl, rfl, hW.out _⟩)
    · refine z_lconst1 (pc := 13) dL_solve_13 ?_
      refine z_goto (pc := 14) (tgt := 18) dL_solve_14 (by decide) ?_
      refine z_last (pc := 18) dL_solve_18 (hW.2.2.1) (z_v01) ?_
      refine z_goto (pc := 19) (tgt := 34) dL_solve_19 (by decide) ?_
      refine z_iconst_0 (pc := 34) dL_solve_34 ?_
      refine z_iret (pc := 35) dL_solve_35 rfl (⟨0, _, A, _, _, _, _, _, rfl, ⟨Or.inl ⟨p, z, hp, hz2, rfl, rfl, hm, h4, rfl, rfl, rfl, rfl, rfl, rfl⟩, fun _ => z_10 (m = bst (I 9 z 0))⟩, fun _ => by rw [z_up0, (z_10 (m = bst (I 9 z 0))).resolve_left hz]; rfl, rfl, hW.out _⟩)
theorem wL_opponent (h : z_LW G A I N O B A6 M qo qd vo vd w) (hJ : z_J I N O B M) (x : Int32) : z_MW G zL_opponent 8 [.ref (A 0 0 0), .int x, .ref qo] w 24 84 (z_kq G A A6 M qo qd vd (z_Qopponent x I N O B)) z_nx := by
  have hC := h.1
  have hS := hJ.1
  have h8 : N 6 0 ≤ 8 := by rw [hS.1]; exact hS.2.2.2.1
  have h40 : N 8 0 ≤ 40 := by rw [hS.2.2.1]; exact hS.2.2.2.2.2.1
  refine z_MW.of (by decide +kernel) (by intro v hv; simp only [List.mem_cons, List.not_mem_nil, or_false] at hv; rcases hv with rfl | rfl | rfl <;> first | rfl | exact z_isr_cat (z_isr_rf _)) (Nat.le_of_ble_eq_true rfl) ?_
  show z_E _ zL_opponent _ _ 0 [some (.ref (A 0 0 0)), some (.int x), some (.ref qo), none] [] _ _ _
  refine z_aload_n (pc := 0) dL_opponent_0 rfl (by first | rfl | exact z_isr_rf _) ?_
  refine z_iconst_0 (pc := 1) dL_opponent_1 ?_
  refine z_aload_n (pc := 2) dL_opponent_2 rfl (by first | rfl | exact z_isr_rf _) ?_
  refine z_iload_n (pc := 3) dL_opponent_3 rfl ?_
  refine z_callV (pc := 4) (mX5_opponent hC hS x) dL_opponent_4 cwL_76 okX5_opponent rfl hC.k0 rfl rfl (by omega) rfl (Nat.le_of_ble_eq_true rfl) (by omega) (by omega) (fun E wN hN => ?_) (fun v wN hN => ?_)
  · obtain ⟨rfl, rfl, hP⟩ := hN
    refine z_Xat (x := ⟨0, 9, 12, 31⟩) (pre := []) (suf := []) z_cIOE rfl (fun _ h => absurd h List.not_mem_nil) (by decide) (by decide) z_cl31 (fun q => ?_)
    show z_E _ zL_opponent _ _ 12 _ _ _ _ _
    refine z_astore3 (pc := 12) dL_opponent_12 (by first | rfl | exact z_isr_rf _) ?_
    refine z_iconst_1 (pc := 13) dL_opponent_13 ?_
    refine z_iret (pc := 14) dL_opponent_14 rfl (⟨1, 0, A, I, N, O, B, vo, rfl, Or.inr ⟨⟨rfl, rfl, rfl, rfl⟩, Or.inl ⟨hP, rfl⟩⟩, fun z => absurd z (by decide), rfl, h⟩)
  · obtain ⟨p, hp, rfl, rfl, hf2, hC2⟩ := hN
    have hW := h.cls hC2 hf2
    refine z_i2l (pc := 7) dL_opponent_7 ?_
    refine z_last (pc := 8) dL_opponent_8 (hW.2.2.1) (z_v01) ?_
    refine z_goto (pc := 9) (tgt := 15) dL_opponent_9 (by decide) ?_
    refine z_iconst_0 (pc := 15) dL_opponent_15 ?_
    refine z_iret (pc := 16) dL_opponent_16 rfl (⟨0, z_fi (z_pt I N O 1 p), A, _, _, _, _, _, rfl, Or.inl ⟨p, hp, rfl, rfl, rfl, rfl, rfl, rfl, rfl⟩, fun _ => z_up0 _ _, rfl, hW.out _⟩)
theorem wL_hasWhite (h : z_LW G A I N O B A6 M qo qd vo vd w) (hJ : z_J I N O B M) (x : Int32) : z_MW G zL_hasWhite 8 [.ref (A 0 0 0), .int x, .ref qo] w 24 84 (z_kq G A A6 M qo qd vd (z_Qz (z_QhasWhite x I N O B))) z_nx := by
  have hC := h.1
  have hS := hJ.1
  have h8 : N 6 0 ≤ 8 := by rw [hS.1]; exact hS.2.2.2.1
  have h40 : N 8 0 ≤ 40 := by rw [hS.2.2.1]; exact hS.2.2.2.2.2.1
  refine z_MW.of (by decide +kernel) (by intro v hv; simp only [List.mem_cons, List.not_mem_nil, or_false] at hv; rcases hv with rfl | rfl | rfl <;> first | rfl | exact z_isr_cat (z_isr_rf _)) (Nat.le_of_ble_eq_true rfl) ?_
  show z_E _ zL_hasWhite _ _ 0 [some (.ref (A 0 0 0)), some (.int x), some (.ref qo), none] [] _ _ _
  refine z_aload_n (pc := 0) dL_hasWhite_0 rfl (by first | rfl | exact z_isr_rf _) ?_
  refine z_iconst_0 (pc := 1) dL_hasWhite_1 ?_
  refine z_aload_n (pc := 2) dL_hasWhite_2 rfl (by first | rfl | exact z_isr_rf _) ?_
  refine z_iload_n (pc := 3) dL_hasWhite_3 rfl ?_
  refine z_callV (pc := 4) (mX5_hasWhite hC hS x) dL_hasWhite_4 cwL_79 okX5_hasWhite rfl hC.k0 rfl rfl (by omega) rfl (Nat.le_of_ble_eq_true rfl) (by omega) (by omega) (fun E wN hN => ?_) (fun v wN hN => ?_)
  · obtain ⟨hf2, ⟨rfl, rfl, hP⟩ | ⟨rfl, hC2, p, hp, rfl, hpn⟩⟩ := hN
    · refine z_Xat (x := ⟨0, 16, 19, 31⟩) (pre := []) (suf := [⟨0, 16, 22, 26⟩]) z_cIOE rfl (fun _ h => absurd h List.not_mem_nil) (by decide) (by decide) z_cl31 (fun q => ?_)
      show z_E _ zL_hasWhite _ _ 19 _ _ _ _ _
      refine z_astore3 (pc := 19) dL_hasWhite_19 (by first | rfl | exact z_isr_rf _) ?_
      refine z_iconst_1 (pc := 20) dL_hasWhite_20 ?_
      refine z_iret (pc := 21) dL_hasWhite_21 rfl (⟨1, 0, A, I, N, O, B, vo, rfl, ⟨Or.inr (Or.inr ⟨⟨rfl, rfl, rfl, rfl⟩, Or.inl ⟨hP, rfl⟩⟩), fun z => absurd z (by decide)⟩, fun z => absurd z (by decide), rfl, h⟩)
    · refine z_Xat (x := ⟨0, 16, 22, 26⟩) (pre := [⟨0, 16, 19, 31⟩]) (suf := []) z_cISE rfl (List.forall_mem_cons.mpr ⟨⟨by decide, IOE, z_cl31, z_n2⟩, fun _ h => absurd h List.not_mem_nil⟩) (by decide) (by decide) z_cl26 (fun q => ?_)
      show z_E _ zL_hasWhite _ _ 22 _ _ _ _ _
      refine z_astore3 (pc := 22) dL_hasWhite_22 (by first | rfl | exact z_isr_rf _) ?_
      refine z_iconst_2 (pc := 23) dL_hasWhite_23 ?_
      refine z_iret (pc := 24) dL_hasWhite_24 rfl (⟨2, 0, A, _, _, _, _, vo, rfl, ⟨Or.inr (Or.inl ⟨p, hp, rfl, hpn, rfl, rfl, rfl, rfl, rfl⟩), fun z => absurd z (by decide)⟩, fun z => absurd z (by decide), rfl, h.cls hC2 hf2⟩)
  · obtain ⟨p, q, hp, rfl, hpq, rfl, hf2, hC2⟩ := hN
    have hW := h.cls hC2 hf2
    refine z_if_eq (pc := 7) (tgt := 14) dL_hasWhite_7 (by decide) (fun hz => ?_) (fun hz => ?_)
    · refine z_lconst0 (pc := 14) dL_hasWhite_14 ?_
      refine z_last (pc := 15) dL_hasWhite_15 (hW.2.2.1) (z_v01) ?_
      refine z_goto (pc := 16) (tgt := 25) dL_hasWhite_16 (by decide) ?_
      refine z_iconst_0 (pc := 25) dL_hasWhite_25 ?_
      refine z_iret (pc := 26) dL_hasWhite_26 rfl (⟨0, z_b (z_hw I p q), A, _, _, _, _, _, rfl, ⟨Or.inl ⟨p, q, hp, rfl, hpq, rfl, rfl, rfl, rfl, rfl, rfl⟩, fun _ => z_b_01 _⟩, fun _ => by rw [z_up0, show ((z_b (z_hw I p q)) : Int32) = 0 from hz]; rfl, rfl, hW.out _⟩)
    · refine z_lconst1 (pc := 10) dL_hasWhite_10 ?_
      refine z_goto (pc := 11) (tgt := 15) dL_hasWhite_11 (by decide) ?_
      refine z_last (pc := 15) dL_hasWhite_15 (hW.2.2.1) (z_v01) ?_
      refine z_goto (pc := 16) (tgt := 25) dL_hasWhite_16 (by decide) ?_
      refine z_iconst_0 (pc := 25) dL_hasWhite_25 ?_
      refine z_iret (pc := 26) dL_hasWhite_26 rfl (⟨0, z_b (z_hw I p q), A, _, _, _, _, _, rfl, ⟨Or.inl ⟨p, q, hp, rfl, hpq, rfl, rfl, rfl, rfl, rfl, rfl⟩, fun _ => z_b_01 _⟩, fun _ => by rw [z_up0, (z_b_01 _).resolve_left hz]; rfl, rfl, hW.out _⟩)
end WRP3

