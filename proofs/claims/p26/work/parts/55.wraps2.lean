section WRP2
variable {G : z_G} {F : Nat → Prop} {a0 : Nat} {ws w : z_W} {I : z_TI} {N : z_TN} {oc : Option Nat} {B : z_TB}
theorem wL_rating (hV : z_V G F a0 ws I N oc B w) (x y : Int32) : z_MW G zL_rating 8 [.ref a0, .int x, .int y] w 2 12 (z_rp (.int (z_if (z_rg x (N 0 0)) (z_if (z_rg y 5) (I 3 x.toNatClampNeg y.toNatClampNeg) (-1000002)) (-1000001))) w) z_nx := by
  obtain ⟨A, O, M, rfl, rfl, hJ, hK, hC, hf⟩ := hV
  have hS := hJ.1
  have e6 := hS.1
  have e8 := hS.2.2.1
  have h8 := hS.2.2.2.1
  have h40 := hS.2.2.2.2.2.1
  refine z_MW.of (by decide +kernel) (by intro v hv; simp only [List.mem_cons, List.not_mem_nil, or_false] at hv; rcases hv with rfl | rfl | rfl <;> rfl) (Nat.le_of_ble_eq_true rfl) ?_
  show z_E _ zL_rating _ _ 0 [some (.ref (A 0 0 0)), some (.int x), some (.int y), none] [] _ _ _
  refine z_aload_n (pc := 0) dL_rating_0 rfl (by first | rfl | exact z_isr_rf _) ?_
  refine z_iload_n (pc := 1) dL_rating_1 rfl ?_
  refine z_iload_n (pc := 2) dL_rating_2 rfl ?_
  refine z_callV (pc := 3) (mX5_rating hC hS x y) dL_rating_3 cwL_62 okX5_rating rfl hC.k0 rfl rfl (by omega) rfl (Nat.le_of_ble_eq_true rfl) (by omega) (by omega) (fun E wN hN => ?_) (fun v wN hN => ?_)
  · obtain ⟨rfl, ⟨rfl, hP⟩ | ⟨rfl, hP, hP2⟩⟩ := hN
    · refine z_Xat (x := ⟨0, 6, 7, 36⟩) (pre := []) (suf := [⟨0, 6, 11, 16⟩]) z_cIOE rfl (fun _ h => absurd h List.not_mem_nil) (by decide) (by decide) z_cl36 (fun q => ?_)
      show z_E _ zL_rating _ _ 7 _ _ _ _ _
      refine z_astore3 (pc := 7) dL_rating_7 (by first | rfl | exact z_isr_rf _) ?_
      refine z_ldc (pc := 8) dL_rating_8 cc38 ?_
      refine z_iret (pc := 10) dL_rating_10 rfl (⟨by rw [z_if_f (fun z => hP (by rw [e6]; exact z))], rfl⟩)
    · refine z_Xat (x := ⟨0, 6, 11, 16⟩) (pre := [⟨0, 6, 7, 36⟩]) (suf := []) z_cIAE rfl (List.forall_mem_cons.mpr ⟨⟨by decide, IOE, z_cl36, z_n1⟩, fun _ h => absurd h List.not_mem_nil⟩) (by decide) (by decide) z_cl16 (fun q => ?_)
      show z_E _ zL_rating _ _ 11 _ _ _ _ _
      refine z_astore3 (pc := 11) dL_rating_11 (by first | rfl | exact z_isr_rf _) ?_
      refine z_ldc (pc := 12) dL_rating_12 cc18 ?_
      refine z_iret (pc := 14) dL_rating_14 rfl (⟨by rw [z_if_t (by rw [e6] at hP; exact hP), z_if_f hP2], rfl⟩)
  · obtain ⟨rfl, p, t, hp, rfl, ht, rfl, rfl⟩ := hN
    refine z_iret (pc := 6) dL_rating_6 rfl (⟨by rw [z_if_t ⟨p, by omega, rfl⟩, z_if_t ⟨t, ht, rfl⟩, nI_clamp (show p < 2 ^ 31 by omega), nI_clamp (show t < 2 ^ 31 by omega)], rfl⟩)
theorem wL_results (hV : z_V G F a0 ws I N oc B w) (x y : Int32) : z_MW G zL_results 8 [.ref a0, .int x, .int y] w 1 6 (z_rp (.int (z_if (z_ln x y) (I 11 y.toNatClampNeg x.toNatClampNeg) (-1000002))) w) z_nx := by
  obtain ⟨A, O, M, rfl, rfl, hJ, hK, hC, hf⟩ := hV
  have hS := hJ.1
  have e6 := hS.1
  have e8 := hS.2.2.1
  have h8 := hS.2.2.2.1
  have h40 := hS.2.2.2.2.2.1
  have hZ := hJ.2.1
  refine z_MW.of (by decide +kernel) (by intro v hv; simp only [List.mem_cons, List.not_mem_nil, or_false] at hv; rcases hv with rfl | rfl | rfl <;> rfl) (Nat.le_of_ble_eq_true rfl) ?_
  show z_E _ zL_results _ _ 0 [some (.ref (A 0 0 0)), some (.int x), some (.int y), none] [] _ _ _
  refine z_aload_n (pc := 0) dL_results_0 rfl (by first | rfl | exact z_isr_rf _) ?_
  refine z_iload_n (pc := 1) dL_results_1 rfl ?_
  refine z_iload_n (pc := 2) dL_results_2 rfl ?_
  refine z_callV (pc := 3) (mX5_results hC hS x y) dL_results_3 cwL_65 okX5_results rfl hC.k0 rfl rfl (by omega) rfl (Nat.le_of_ble_eq_true rfl) (by omega) (by omega) (fun E wN hN => ?_) (fun v wN hN => ?_)
  · obtain ⟨rfl, rfl, hP⟩ := hN
    refine z_Xat (x := ⟨0, 6, 7, 16⟩) (pre := []) (suf := []) z_cIAE rfl (fun _ h => absurd h List.not_mem_nil) (by decide) (by decide) z_cl16 (fun q => ?_)
    show z_E _ zL_results _ _ 7 _ _ _ _ _
    refine z_astore3 (pc := 7) dL_results_7 (by first | rfl | exact z_isr_rf _) ?_
    refine z_ldc (pc := 8) dL_results_8 cc18 ?_
    refine z_iret (pc := 10) dL_results_10 rfl (⟨by rw [z_if_f hP], rfl⟩)
  · obtain ⟨rfl, l, n, h1, h6, hl, rfl, rfl, rfl⟩ := hN
    have hp4 := z_p4 n (by omega)
    refine z_iret (pc := 6) dL_results_6 rfl (⟨by rw [z_if_t ⟨l, n, h1, h6, hl, rfl, rfl⟩, nI_clamp (show l < 2 ^ 31 by omega), nI_clamp (show n < 2 ^ 31 by omega), z_ifB1 hZ], rfl⟩)
theorem wL_points (hV : z_V G F a0 ws I N oc B w) (x y : Int32) : z_MW G zL_points 8 [.ref a0, .int x, .int y] w 1 6 (z_rp (.int (z_if (z_ln x y) (I 12 y.toNatClampNeg x.toNatClampNeg) (-1000002))) w) z_nx := by
  obtain ⟨A, O, M, rfl, rfl, hJ, hK, hC, hf⟩ := hV
  have hS := hJ.1
  have e6 := hS.1
  have e8 := hS.2.2.1
  have h8 := hS.2.2.2.1
  have h40 := hS.2.2.2.2.2.1
  have hZ := hJ.2.1
  refine z_MW.of (by decide +kernel) (by intro v hv; simp only [List.mem_cons, List.not_mem_nil, or_false] at hv; rcases hv with rfl | rfl | rfl <;> rfl) (Nat.le_of_ble_eq_true rfl) ?_
  show z_E _ zL_points _ _ 0 [some (.ref (A 0 0 0)), some (.int x), some (.int y), none] [] _ _ _
  refine z_aload_n (pc := 0) dL_points_0 rfl (by first | rfl | exact z_isr_rf _) ?_
  refine z_iload_n (pc := 1) dL_points_1 rfl ?_
  refine z_iload_n (pc := 2) dL_points_2 rfl ?_
  refine z_callV (pc := 3) (mX5_points hC hS x y) dL_points_3 cwL_68 okX5_points rfl hC.k0 rfl rfl (by omega) rfl (Nat.le_of_ble_eq_true rfl) (by omega) (by omega) (fun E wN hN => ?_) (fun v wN hN => ?_)
  · obtain ⟨rfl, rfl, hP⟩ := hN
    refine z_Xat (x := ⟨0, 6, 7, 16⟩) (pre := []) (suf := []) z_cIAE rfl (fun _ h => absurd h List.not_mem_nil) (by decide) (by decide) z_cl16 (fun q => ?_)
    show z_E _ zL_points _ _ 7 _ _ _ _ _
    refine z_astore3 (pc := 7) dL_points_7 (by first | rfl | exact z_isr_rf _) ?_
    refine z_ldc (pc := 8) dL_points_8 cc18 ?_
    refine z_iret (pc := 10) dL_points_10 rfl (⟨by rw [z_if_f hP], rfl⟩)
  · obtain ⟨rfl, l, n, h1, h6, hl, rfl, rfl, rfl⟩ := hN
    have hp4 := z_p4 n (by omega)
    refine z_iret (pc := 6) dL_points_6 rfl (⟨by rw [z_if_t ⟨l, n, h1, h6, hl, rfl, rfl⟩, nI_clamp (show l < 2 ^ 31 by omega), nI_clamp (show n < 2 ^ 31 by omega), z_ifB2 hZ], rfl⟩)
theorem wL_pointsOfGames (hV : z_V G F a0 ws I N oc B w) (x y : Int32) : z_MW G zL_pointsOfGames 8 [.ref a0, .int x, .int y] w 1 6 (z_rp (.int (z_if (z_ln x y) (z_pgo I N (oc) x.toNatClampNeg y.toNatClampNeg) (-1000002))) w) z_nx := by
  obtain ⟨A, O, M, rfl, rfl, hJ, hK, hC, hf⟩ := hV
  have hS := hJ.1
  have e6 := hS.1
  have e8 := hS.2.2.1
  have h8 := hS.2.2.2.1
  have h40 := hS.2.2.2.2.2.1
  have hZ := hJ.2.1
  refine z_MW.of (by decide +kernel) (by intro v hv; simp only [List.mem_cons, List.not_mem_nil, or_false] at hv; rcases hv with rfl | rfl | rfl <;> rfl) (Nat.le_of_ble_eq_true rfl) ?_
  show z_E _ zL_pointsOfGames _ _ 0 [some (.ref (A 0 0 0)), some (.int x), some (.int y), none] [] _ _ _
  refine z_aload_n (pc := 0) dL_pointsOfGames_0 rfl (by first | rfl | exact z_isr_rf _) ?_
  refine z_iload_n (pc := 1) dL_pointsOfGames_1 rfl ?_
  refine z_iload_n (pc := 2) dL_pointsOfGames_2 rfl ?_
  refine z_callV (pc := 3) (mX5_pointsOfGames hC hS x y) dL_pointsOfGames_3 cwL_75 okX5_pointsOfGames rfl hC.k0 rfl rfl (by omega) rfl (Nat.le_of_ble_eq_true rfl) (by omega) (by omega) (fun E wN hN => ?_) (fun v wN hN => ?_)
  · obtain ⟨rfl, rfl, hP⟩ := hN
    refine z_Xat (x := ⟨0, 6, 7, 16⟩) (pre := []) (suf := []) z_cIAE rfl (fun _ h => absurd h List.not_mem_nil) (by decide) (by decide) z_cl16 (fun q => ?_)
    show z_E _ zL_pointsOfGames _ _ 7 _ _ _ _ _
    refine z_astore3 (pc := 7) dL_pointsOfGames_7 (by first | rfl | exact z_isr_rf _) ?_
    refine z_ldc (pc := 8) dL_pointsOfGames_8 cc18 ?_
    refine z_iret (pc := 10) dL_pointsOfGames_10 rfl (⟨by rw [z_if_f hP], rfl⟩)
  · obtain ⟨rfl, l, n, h1, h6, hl, rfl, rfl, rfl⟩ := hN
    have hp4 := z_p4 n (by omega)
    refine z_iret (pc := 6) dL_pointsOfGames_6 rfl (⟨by rw [z_if_t ⟨l, n, h1, h6, hl, rfl, rfl⟩, nI_clamp (show l < 2 ^ 31 by omega), nI_clamp (show n < 2 ^ 31 by omega), z_pg_o], rfl⟩)
theorem wL_isDropped (hV : z_V G F a0 ws I N oc B w) (x y : Int32) : z_MW G zL_isDropped 8 [.ref a0, .int x, .int y] w 1 6 (z_rp (.int (z_if (z_ln x y) (z_b (¬ z_al I y.toNatClampNeg x.toNatClampNeg)) (-1000002))) w) z_nx := by
  obtain ⟨A, O, M, rfl, rfl, hJ, hK, hC, hf⟩ := hV
  have hS := hJ.1
  have e6 := hS.1
  have e8 := hS.2.2.1
  have h8 := hS.2.2.2.1
  have h40 := hS.2.2.2.2.2.1
  have hZ := hJ.2.1
  refine z_MW.of (by decide +kernel) (by intro v hv; simp only [List.mem_cons, List.not_mem_nil, or_false] at hv; rcases hv with rfl | rfl | rfl <;> rfl) (Nat.le_of_ble_eq_true rfl) ?_
  show z_E _ zL_isDropped _ _ 0 [some (.ref (A 0 0 0)), some (.int x), some (.int y), none] [] _ _ _
  refine z_aload_n (pc := 0) dL_isDropped_0 rfl (by first | rfl | exact z_isr_rf _) ?_
  refine z_iload_n (pc := 1) dL_isDropped_1 rfl ?_
  refine z_iload_n (pc := 2) dL_isDropped_2 rfl ?_
  refine z_callV (pc := 3) (mX5_isDropped hC hS x y) dL_isDropped_3 cwL_71 okX5_isDropped rfl hC.k0 rfl rfl (by omega) rfl (Nat.le_of_ble_eq_true rfl) (by omega) (by omega) (fun E wN hN => ?_) (fun v wN hN => ?_)
  · obtain ⟨rfl, rfl, hP⟩ := hN
    refine z_Xat (x := ⟨0, 14, 15, 16⟩) (pre := []) (suf := []) z_cIAE rfl (fun _ h => absurd h List.not_mem_nil) (by decide) (by decide) z_cl16 (fun q => ?_)
    show z_E _ zL_isDropped _ _ 15 _ _ _ _ _
    refine z_astore3 (pc := 15) dL_isDropped_15 (by first | rfl | exact z_isr_rf _) ?_
    refine z_ldc (pc := 16) dL_isDropped_16 cc18 ?_
    refine z_iret (pc := 18) dL_isDropped_18 rfl (⟨by rw [z_if_f hP], rfl⟩)
  · obtain ⟨rfl, l, n, h1, h6, hl, rfl, rfl, rfl⟩ := hN
    have hp4 := z_p4 n (by omega)
    have hq := z_hd_al (I := I) (B := B) hZ (l := l) (n := n)
    refine z_if_eq (pc := 6) (tgt := 13) dL_isDropped_6 (by decide) (fun hz => ?_) (fun hz => ?_)
    · refine z_iconst_0 (pc := 13) dL_isDropped_13 ?_
      refine z_iret (pc := 14) dL_isDropped_14 rfl (⟨by rw [z_if_t ⟨l, n, h1, h6, hl, rfl, rfl⟩, nI_clamp (show l < 2 ^ 31 by omega), nI_clamp (show n < 2 ^ 31 by omega), z_b_f (fun z => by rw [if_pos (hq.2 z)] at hz; exact absurd hz (by decide))], rfl⟩)
    · refine z_iconst_1 (pc := 9) dL_isDropped_9 ?_
      refine z_goto (pc := 10) (tgt := 14) dL_isDropped_10 (by decide) ?_
      refine z_iret (pc := 14) dL_isDropped_14 rfl (⟨by rw [z_if_t ⟨l, n, h1, h6, hl, rfl, rfl⟩, nI_clamp (show l < 2 ^ 31 by omega), nI_clamp (show n < 2 ^ 31 by omega), z_b_t (hq.1 (Classical.not_not.1 (fun z => hz (if_neg z))))], rfl⟩)
theorem wL_mean (hV : z_V G F a0 ws I N oc B w) (x y : Int32) : z_MW G zL_mean 8 [.ref a0, .int x, .int y] w 1 6 (z_rp (.float (z_if (z_ln x y) (z_mn I y.toNatClampNeg x.toNatClampNeg) (3221225472))) w) z_nx := by
  obtain ⟨A, O, M, rfl, rfl, hJ, hK, hC, hf⟩ := hV
  have hS := hJ.1
  have e6 := hS.1
  have e8 := hS.2.2.1
  have h8 := hS.2.2.2.1
  have h40 := hS.2.2.2.2.2.1
  have hZ := hJ.2.1
  refine z_MW.of (by decide +kernel) (by intro v hv; simp only [List.mem_cons, List.not_mem_nil, or_false] at hv; rcases hv with rfl | rfl | rfl <;> rfl) (Nat.le_of_ble_eq_true rfl) ?_
  show z_E _ zL_mean _ _ 0 [some (.ref (A 0 0 0)), some (.int x), some (.int y), none] [] _ _ _
  refine z_aload_n (pc := 0) dL_mean_0 rfl (by first | rfl | exact z_isr_rf _) ?_
  refine z_iload_n (pc := 1) dL_mean_1 rfl ?_
  refine z_iload_n (pc := 2) dL_mean_2 rfl ?_
  refine z_callV (pc := 3) (mX5_mean2 hC hS x y hJ.hfl) dL_mean_3 cwL_78 okX5_mean rfl hC.k0 rfl rfl (by omega) rfl (Nat.le_of_ble_eq_true rfl) (by omega) (by omega) (fun E wN hN => ?_) (fun v wN hN => ?_)
  · obtain ⟨rfl, rfl, hP⟩ := hN
    refine z_Xat (x := ⟨0, 6, 7, 16⟩) (pre := []) (suf := []) z_cIAE rfl (fun _ h => absurd h List.not_mem_nil) (by decide) (by decide) z_cl16 (fun q => ?_)
    show z_E _ zL_mean _ _ 7 _ _ _ _ _
    refine z_astore3 (pc := 7) dL_mean_7 (by first | rfl | exact z_isr_rf _) ?_
    refine z_ldcf (pc := 8) dL_mean_8 cc82 ?_
    refine z_fret (pc := 10) dL_mean_10 rfl (⟨by rw [z_if_f hP], rfl⟩)
  · obtain ⟨rfl, l, n, h1, h6, hl, rfl, rfl, rfl⟩ := hN
    have hp4 := z_p4 n (by omega)
    refine z_fret (pc := 6) dL_mean_6 rfl (⟨by rw [z_if_t ⟨l, n, h1, h6, hl, rfl, rfl⟩, nI_clamp (show l < 2 ^ 31 by omega), nI_clamp (show n < 2 ^ 31 by omega), z_mn_e hZ], rfl⟩)
end WRP2

