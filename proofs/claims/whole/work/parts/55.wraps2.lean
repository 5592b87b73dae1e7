/-! .. more of them -/
section WRP2
variable {G : z_G} {A : z_TA} {I : z_TI} {N : z_TN} {O : z_TO} {B : z_TB} {A6 : z_TA} {M : z_TM} {qo qd : Nat} {vo : Nat → Int64} {vd : Nat → UInt64} {w : z_W}
theorem wL_results (h : z_LW G A I N O B A6 M qo qd vo vd w) (hJ : z_J I N O B M) (x y : Int32) : z_MW G zL_results 8 [.ref (A 0 0 0), .int x, .int y, .ref qo] w 24 84 (z_kq G A A6 M qo qd vd (z_Qp (z_ln x y) (if B y.toNatClampNeg x.toNatClampNeg then I 11 y.toNatClampNeg x.toNatClampNeg else 0) I N O B)) z_nx := by
  have hC := h.1
  have hS := hJ.1
  have h8 : N 6 0 ≤ 8 := by rw [hS.1]; exact hS.2.2.2.1
  have h40 : N 8 0 ≤ 40 := by rw [hS.2.2.1]; exact hS.2.2.2.2.2.1
  refine z_MW.of (by decide +kernel) (by intro v hv; simp only [List.mem_cons, List.not_mem_nil, or_false] at hv; rcases hv with rfl | rfl | rfl | rfl <;> first | rfl | exact z_isr_cat (z_isr_rf _)) (Nat.le_of_ble_eq_true rfl) ?_
  show z_E _ zL_results _ _ 0 [some (.ref (A 0 0 0)), some (.int x), some (.int y), some (.ref qo), none] [] _ _ _
  refine z_aload_n (pc := 0) dL_results_0 rfl (by first | rfl | exact z_isr_rf _) ?_
  refine z_iconst_0 (pc := 1) dL_results_1 ?_
  refine z_aload_n (pc := 2) dL_results_2 rfl (by first | rfl | exact z_isr_rf _) ?_
  refine z_iload_n (pc := 3) dL_results_3 rfl ?_
  refine z_iload_n (pc := 4) dL_results_4 rfl ?_
  refine z_callV (pc := 5) (mX5_results hC hS x y) dL_results_5 cwL_59 okX5_results rfl hC.k0 rfl rfl (by omega) rfl (Nat.le_of_ble_eq_true rfl) (by omega) (by omega) (fun E wN hN => ?_) (fun v wN hN => ?_)
  · obtain ⟨rfl, rfl, hP⟩ := hN
    refine z_Xat (x := ⟨0, 10, 13, 13⟩) (pre := []) (suf := []) z_cIAE rfl (fun _ h => absurd h List.not_mem_nil) (by decide) (by decide) z_cl13 (fun q => ?_)
    show z_E _ zL_results _ _ 13 _ _ _ _ _
    refine z_astore4 (pc := 13) dL_results_13 (by first | rfl | exact z_isr_rf _) ?_
    refine z_iconst_1 (pc := 15) dL_results_15 ?_
    refine z_iret (pc := 16) dL_results_16 rfl (⟨1, 0, A, I, N, O, B, vo, rfl, ⟨⟨rfl, rfl, rfl, rfl⟩, Or.inr ⟨hP, rfl⟩⟩, fun z => absurd z (by decide), rfl, h⟩)
  · obtain ⟨rfl, l, n, h1, h6, hl, rfl, rfl, rfl⟩ := hN
    have hp4 := z_p4 n (by omega)
    refine z_i2l (pc := 8) dL_results_8 ?_
    refine z_last (pc := 9) dL_results_9 (h.2.2.1) (z_v01) ?_
    refine z_goto (pc := 10) (tgt := 17) dL_results_10 (by decide) ?_
    refine z_iconst_0 (pc := 17) dL_results_17 ?_
    refine z_iret (pc := 18) dL_results_18 rfl (⟨0, if B n l then I 11 n l else 0, A, I, N, O, B, _, rfl, ⟨⟨rfl, rfl, rfl, rfl⟩, Or.inl ⟨⟨l, n, h1, h6, hl, rfl, rfl⟩, rfl, by rw [nI_clamp (show l < 2 ^ 31 by omega), nI_clamp (show n < 2 ^ 31 by omega)]⟩⟩, fun _ => z_up0 _ _, rfl, h.out _⟩)
theorem wL_points (h : z_LW G A I N O B A6 M qo qd vo vd w) (hJ : z_J I N O B M) (x y : Int32) : z_MW G zL_points 8 [.ref (A 0 0 0), .int x, .int y, .ref qo] w 24 84 (z_kq G A A6 M qo qd vd (z_Qp (z_ln x y) (if B y.toNatClampNeg x.toNatClampNeg then I 12 y.toNatClampNeg x.toNatClampNeg else 0) I N O B)) z_nx := by
  have hC := h.1
  have hS := hJ.1
  have h8 : N 6 0 ≤ 8 := by rw [hS.1]; exact hS.2.2.2.1
  have h40 : N 8 0 ≤ 40 := by rw [hS.2.2.1]; exact hS.2.2.2.2.2.1
  refine z_MW.of (by decide +kernel) (by intro v hv; simp only [List.mem_cons, List.not_mem_nil, or_false] at hv; rcases hv with rfl | rfl | rfl | rfl <;> first | rfl | exact z_isr_cat (z_isr_rf _)) (Nat.le_of_ble_eq_true rfl) ?_
  show z_E _ zL_points _ _ 0 [some (.ref (A 0 0 0)), some (.int x), some (.int y), some (.ref qo), none] [] _ _ _
  refine z_aload_n (pc := 0) dL_points_0 rfl (by first | rfl | exact z_isr_rf _) ?_
  refine z_iconst_0 (pc := 1) dL_points_1 ?_
  refine z_aload_n (pc := 2) dL_points_2 rfl (by first | rfl | exact z_isr_rf _) ?_
  refine z_iload_n (pc := 3) dL_points_3 rfl ?_
  refine z_iload_n (pc := 4) dL_points_4 rfl ?_
  refine z_callV (pc := 5) (mX5_points hC hS x y) dL_points_5 cwL_62 okX5_points rfl hC.k0 rfl rfl (by omega) rfl (Nat.le_of_ble_eq_true rfl) (by omega) (by omega) (fun E wN hN => ?_) (fun v wN hN => ?_)
  · obtain ⟨rfl, rfl, hP⟩ := hN
    refine z_Xat (x := ⟨0, 10, 13, 13⟩) (pre := []) (suf := []) z_cIAE rfl (fun _ h => absurd h List.not_mem_nil) (by decide) (by decide) z_cl13 (fun q => ?_)
    show z_E _ zL_points _ _ 13 _ _ _ _ _
    refine z_astore4 (pc := 13) dL_points_13 (by first | rfl | exact z_isr_rf _) ?_
    refine z_iconst_1 (pc := 15) dL_points_15 ?_
    refine z_iret (pc := 16) dL_points_16 rfl (⟨1, 0, A, I, N, O, B, vo, rfl, ⟨⟨rfl, rfl, rfl, rfl⟩, Or.inr ⟨hP, rfl⟩⟩, fun z => absurd z (by decide), rfl, h⟩)
  · obtain ⟨rfl, l, n, h1, h6, hl, rfl, rfl, rfl⟩ := hN
    have hp4 := z_p4 n (by omega)
    refine z_i2l (pc := 8) dL_points_8 ?_
    refine z_last (pc := 9) dL_points_9 (h.2.2.1) (z_v01) ?_
    refine z_goto (pc := 10) (tgt := 17) dL_points_10 (by decide) ?_
    refine z_iconst_0 (pc := 17) dL_points_17 ?_
    refine z_iret (pc := 18) dL_points_18 rfl (⟨0, if B n l then I 12 n l else 0, A, I, N, O, B, _, rfl, ⟨⟨rfl, rfl, rfl, rfl⟩, Or.inl ⟨⟨l, n, h1, h6, hl, rfl, rfl⟩, rfl, by rw [nI_clamp (show l < 2 ^ 31 by omega), nI_clamp (show n < 2 ^ 31 by omega)]⟩⟩, fun _ => z_up0 _ _, rfl, h.out _⟩)
theorem wL_pointsOfGames (h : z_LW G A I N O B A6 M qo qd vo vd w) (hJ : z_J I N O B M) (x y : Int32) : z_MW G zL_pointsOfGames 8 [.ref (A 0 0 0), .int x, .int y, .ref qo] w 24 84 (z_kq G A A6 M qo qd vd (z_Qp (z_ln x y) (z_pg I N O x.toNatClampNeg y.toNatClampNeg 60) I N O B)) z_nx := by
  have hC := h.1
  have hS := hJ.1
  have h8 : N 6 0 ≤ 8 := by rw [hS.1]; exact hS.2.2.2.1
  have h40 : N 8 0 ≤ 40 := by rw [hS.2.2.1]; exact hS.2.2.2.2.2.1
  refine z_MW.of (by decide +kernel) (by intro v hv; simp only [List.mem_cons, List.not_mem_nil, or_false] at hv; rcases hv with rfl | rfl | rfl | rfl <;> first | rfl | exact z_isr_cat (z_isr_rf _)) (Nat.le_of_ble_eq_true rfl) ?_
  show z_E _ zL_pointsOfGames _ _ 0 [some (.ref (A 0 0 0)), some (.int x), some (.int y), some (.ref qo), none] [] _ _ _
  refine z_aload_n (pc := 0) dL_pointsOfGames_0 rfl (by first | rfl | exact z_isr_rf _) ?_
  refine z_iconst_0 (pc := 1) dL_pointsOfGames_1 ?_
  refine z_aload_n (pc := 2) dL_pointsOfGames_2 rfl (by first | rfl | exact z_isr_rf _) ?_
  refine z_iload_n (pc := 3) dL_pointsOfGames_3 rfl ?_
  refine z_iload_n (pc := 4) dL_pointsOfGames_4 rfl ?_
  refine z_callV (pc := 5) (mX5_pointsOfGames hC hS x y) dL_pointsOfGames_5 cwL_69 okX5_pointsOfGames rfl hC.k0 rfl rfl (by omega) rfl (Nat.le_of_ble_eq_true rfl) (by omega) (by omega) (fun E wN hN => ?_) (fun v wN hN => ?_)
  · obtain ⟨rfl, rfl, hP⟩ := hN
    refine z_Xat (x := ⟨0, 10, 13, 13⟩) (pre := []) (suf := []) z_cIAE rfl (fun _ h => absurd h List.not_mem_nil) (by decide) (by decide) z_cl13 (fun q => ?_)
    show z_E _ zL_pointsOfGames _ _ 13 _ _ _ _ _
    refine z_astore4 (pc := 13) dL_pointsOfGames_13 (by first | rfl | exact z_isr_rf _) ?_
    refine z_iconst_1 (pc := 15) dL_pointsOfGames_15 ?_
    refine z_iret (pc := 16) dL_pointsOfGames_16 rfl (⟨1, 0, A, I, N, O, B, vo, rfl, ⟨⟨rfl, rfl, rfl, rfl⟩, Or.inr ⟨hP, rfl⟩⟩, fun z => absurd z (by decide), rfl, h⟩)
  · obtain ⟨rfl, l, n, h1, h6, hl, rfl, rfl, rfl⟩ := hN
    have hp4 := z_p4 n (by omega)
    refine z_i2l (pc := 8) dL_pointsOfGames_8 ?_
    refine z_last (pc := 9) dL_pointsOfGames_9 (h.2.2.1) (z_v01) ?_
    refine z_goto (pc := 10) (tgt := 17) dL_pointsOfGames_10 (by decide) ?_
    refine z_iconst_0 (pc := 17) dL_pointsOfGames_17 ?_
    refine z_iret (pc := 18) dL_pointsOfGames_18 rfl (⟨0, z_pg I N O l n 60, A, I, N, O, B, _, rfl, ⟨⟨rfl, rfl, rfl, rfl⟩, Or.inl ⟨⟨l, n, h1, h6, hl, rfl, rfl⟩, rfl, by rw [nI_clamp (show l < 2 ^ 31 by omega), nI_clamp (show n < 2 ^ 31 by omega)]⟩⟩, fun _ => z_up0 _ _, rfl, h.out _⟩)
theorem wL_isDropped (h : z_LW G A I N O B A6 M qo qd vo vd w) (hJ : z_J I N O B M) (x y : Int32) : z_MW G zL_isDropped 8 [.ref (A 0 0 0), .int x, .int y, .ref qo] w 24 84 (z_kq G A A6 M qo qd vd (z_Qz (z_Qp (z_ln x y) (if z_hd I B x.toNatClampNeg y.toNatClampNeg then 1 else 0) I N O B))) z_nx := by
  have hC := h.1
  have hS := hJ.1
  have h8 : N 6 0 ≤ 8 := by rw [hS.1]; exact hS.2.2.2.1
  have h40 : N 8 0 ≤ 40 := by rw [hS.2.2.1]; exact hS.2.2.2.2.2.1
  refine z_MW.of (by decide +kernel) (by intro v hv; simp only [List.mem_cons, List.not_mem_nil, or_false] at hv; rcases hv with rfl | rfl | rfl | rfl <;> first | rfl | exact z_isr_cat (z_isr_rf _)) (Nat.le_of_ble_eq_true rfl) ?_
  show z_E _ zL_isDropped _ _ 0 [some (.ref (A 0 0 0)), some (.int x), some (.int y), some (.ref qo), none] [] _ _ _
  refine z_aload_n (pc := 0) dL_isDropped_0 rfl (by first | rfl | exact z_isr_rf _) ?_
  refine z_iconst_0 (pc := 1) dL_isDropped_1 ?_
  refine z_aload_n (pc := 2) dL_isDropped_2 rfl (by first | rfl | exact z_isr_rf _) ?_
  refine z_iload_n (pc := 3) dL_isDropped_3 rfl ?_
  refine z_iload_n (pc := 4) dL_isDropped_4 rfl ?_
  refine z_callV (pc := 5) (mX5_isDropped hC hS x y) dL_isDropped_5 cwL_65 okX5_isDropped rfl hC.k0 rfl rfl (by omega) rfl (Nat.le_of_ble_eq_true rfl) (by omega) (by omega) (fun E wN hN => ?_) (fun v wN hN => ?_)
  · obtain ⟨rfl, rfl, hP⟩ := hN
    refine z_Xat (x := ⟨0, 17, 20, 13⟩) (pre := []) (suf := []) z_cIAE rfl (fun _ h => absurd h List.not_mem_nil) (by decide) (by decide) z_cl13 (fun q => ?_)
    show z_E _ zL_isDropped _ _ 20 _ _ _ _ _
    refine z_astore4 (pc := 20) dL_isDropped_20 (by first | rfl | exact z_isr_rf _) ?_
    refine z_iconst_1 (pc := 22) dL_isDropped_22 ?_
    refine z_iret (pc := 23) dL_isDropped_23 rfl (⟨1, 0, A, I, N, O, B, vo, rfl, ⟨⟨⟨rfl, rfl, rfl, rfl⟩, Or.inr ⟨hP, rfl⟩⟩, fun z => absurd z (by decide)⟩, fun z => absurd z (by decide), rfl, h⟩)
  · obtain ⟨rfl, l, n, h1, h6, hl, rfl, rfl, rfl⟩ := hN
    have hp4 := z_p4 n (by omega)
    refine z_if_eq (pc := 8) (tgt := 15) dL_isDropped_8 (by decide) (fun hz => ?_) (fun hz => ?_)
    · refine z_lconst0 (pc := 15) dL_isDropped_15 ?_
      refine z_last (pc := 16) dL_isDropped_16 (h.2.2.1) (z_v01) ?_
      refine z_goto (pc := 17) (tgt := 24) dL_isDropped_17 (by decide) ?_
      refine z_iconst_0 (pc := 24) dL_isDropped_24 ?_
      refine z_iret (pc := 25) dL_isDropped_25 rfl (⟨0, if z_hd I B l n then 1 else 0, A, I, N, O, B, _, rfl, ⟨⟨⟨rfl, rfl, rfl, rfl⟩, Or.inl ⟨⟨l, n, h1, h6, hl, rfl, rfl⟩, rfl, by rw [nI_clamp (show l < 2 ^ 31 by omega), nI_clamp (show n < 2 ^ 31 by omega)]⟩⟩, fun _ => z_10 _⟩, fun _ => by rw [z_up0, show ((if z_hd I B l n then 1 else 0) : Int32) = 0 from hz]; rfl, rfl, h.out _⟩)
    · refine z_lconst1 (pc := 11) dL_isDropped_11 ?_
      refine z_goto (pc := 12) (tgt := 16) dL_isDropped_12 (by decide) ?_
      refine z_last (pc := 16) dL_isDropped_16 (h.2.2.1) (z_v01) ?_
      refine z_goto (pc := 17) (tgt := 24) dL_isDropped_17 (by decide) ?_
      refine z_iconst_0 (pc := 24) dL_isDropped_24 ?_
      refine z_iret (pc := 25) dL_isDropped_25 rfl (⟨0, if z_hd I B l n then 1 else 0, A, I, N, O, B, _, rfl, ⟨⟨⟨rfl, rfl, rfl, rfl⟩, Or.inl ⟨⟨l, n, h1, h6, hl, rfl, rfl⟩, rfl, by rw [nI_clamp (show l < 2 ^ 31 by omega), nI_clamp (show n < 2 ^ 31 by omega)]⟩⟩, fun _ => z_10 _⟩, fun _ => by rw [z_up0, (z_10 _).resolve_left hz]; rfl, rfl, h.out _⟩)
theorem wL_rating (h : z_LW G A I N O B A6 M qo qd vo vd w) (hJ : z_J I N O B M) (x y : Int32) : z_MW G zL_rating 8 [.ref (A 0 0 0), .int x, .int y, .ref qo] w 24 84 (z_kq G A A6 M qo qd vd (z_Qrating x y I N O B)) z_nx := by
  have hC := h.1
  have hS := hJ.1
  have h8 : N 6 0 ≤ 8 := by rw [hS.1]; exact hS.2.2.2.1
  have h40 : N 8 0 ≤ 40 := by rw [hS.2.2.1]; exact hS.2.2.2.2.2.1
  refine z_MW.of (by decide +kernel) (by intro v hv; simp only [List.mem_cons, List.not_mem_nil, or_false] at hv; rcases hv with rfl | rfl | rfl | rfl <;> first | rfl | exact z_isr_cat (z_isr_rf _)) (Nat.le_of_ble_eq_true rfl) ?_
  show z_E _ zL_rating _ _ 0 [some (.ref (A 0 0 0)), some (.int x), some (.int y), some (.ref qo), none] [] _ _ _
  refine z_aload_n (pc := 0) dL_rating_0 rfl (by first | rfl | exact z_isr_rf _) ?_
  refine z_iconst_0 (pc := 1) dL_rating_1 ?_
  refine z_aload_n (pc := 2) dL_rating_2 rfl (by first | rfl | exact z_isr_rf _) ?_
  refine z_iload_n (pc := 3) dL_rating_3 rfl ?_
  refine z_iload_n (pc := 4) dL_rating_4 rfl ?_
  refine z_callV (pc := 5) (mX5_rating hC hS x y) dL_rating_5 cwL_56 okX5_rating rfl hC.k0 rfl rfl (by omega) rfl (Nat.le_of_ble_eq_true rfl) (by omega) (by omega) (fun E wN hN => ?_) (fun v wN hN => ?_)
  · obtain ⟨rfl, ⟨rfl, hP⟩ | ⟨rfl, hP, hP2⟩⟩ := hN
    · refine z_Xat (x := ⟨0, 10, 13, 31⟩) (pre := []) (suf := [⟨0, 10, 17, 13⟩]) z_cIOE rfl (fun _ h => absurd h List.not_mem_nil) (by decide) (by decide) z_cl31 (fun q => ?_)
      show z_E _ zL_rating _ _ 13 _ _ _ _ _
      refine z_astore4 (pc := 13) dL_rating_13 (by first | rfl | exact z_isr_rf _) ?_
      refine z_iconst_1 (pc := 15) dL_rating_15 ?_
      refine z_iret (pc := 16) dL_rating_16 rfl (⟨1, 0, A, I, N, O, B, vo, rfl, Or.inr ⟨⟨rfl, rfl, rfl, rfl⟩, Or.inl ⟨hP, rfl⟩⟩, fun z => absurd z (by decide), rfl, h⟩)
    · refine z_Xat (x := ⟨0, 10, 17, 13⟩) (pre := [⟨0, 10, 13, 31⟩]) (suf := []) z_cIAE rfl (List.forall_mem_cons.mpr ⟨⟨by decide, IOE, z_cl31, z_n1⟩, fun _ h => absurd h List.not_mem_nil⟩) (by decide) (by decide) z_cl13 (fun q => ?_)
      show z_E _ zL_rating _ _ 17 _ _ _ _ _
      refine z_astore4 (pc := 17) dL_rating_17 (by first | rfl | exact z_isr_rf _) ?_
      refine z_iconst_2 (pc := 19) dL_rating_19 ?_
      refine z_iret (pc := 20) dL_rating_20 rfl (⟨2, 0, A, I, N, O, B, vo, rfl, Or.inr ⟨⟨rfl, rfl, rfl, rfl⟩, Or.inr (Or.inl ⟨hP, hP2, rfl⟩)⟩, fun z => absurd z (by decide), rfl, h⟩)
  · obtain ⟨rfl, p, t, hp, rfl, ht, rfl, rfl⟩ := hN
    refine z_i2l (pc := 8) dL_rating_8 ?_
    refine z_last (pc := 9) dL_rating_9 (h.2.2.1) (z_v01) ?_
    refine z_goto (pc := 10) (tgt := 21) dL_rating_10 (by decide) ?_
    refine z_iconst_0 (pc := 21) dL_rating_21 ?_
    refine z_iret (pc := 22) dL_rating_22 rfl (⟨0, I 3 p t, A, I, N, O, B, _, rfl, Or.inl ⟨p, t, hp, rfl, ht, rfl, rfl, rfl, rfl, rfl, rfl, rfl⟩, fun _ => z_up0 _ _, rfl, h.out _⟩)
end WRP2

