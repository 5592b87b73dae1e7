section WRP3
variable {G : z_G} {F : Nat → Prop} {a0 : Nat} {ws w : z_W} {I : z_TI} {N : z_TN} {oc : Option Nat} {B : z_TB}
theorem wL_enter (hV : z_V G F a0 ws I N oc B w) : z_MW G zL_enter 8 [.ref a0] w 4 61 (fun v w' => (N 0 0 < 8 ∧ v = some (.int (nI (N 0 0))) ∧ z_V G F a0 ws (z_IP I (N 0 0)) (z_NP N) oc B w') ∨ (¬ N 0 0 < 8 ∧ v = some (.int (-1000003)) ∧ w' = w)) z_nx := by
  obtain ⟨A, O, M, rfl, rfl, hJ, hK, hC, hf⟩ := hV
  have hS := hJ.1
  have e6 := hS.1
  have e8 := hS.2.2.1
  have h8 := hS.2.2.2.1
  have h40 := hS.2.2.2.2.2.1
  refine z_MW.of (by decide +kernel) (by intro v hv; simp only [List.mem_cons, List.not_mem_nil, or_false] at hv; rcases hv with rfl <;> rfl) (Nat.le_of_ble_eq_true rfl) ?_
  show z_E _ zL_enter _ _ 0 [some (.ref (A 0 0 0)), none] [] _ _ _
  refine z_aload_n (pc := 0) dL_enter_0 rfl (by first | rfl | exact z_isr_rf _) ?_
  refine z_callV (pc := 1) (mX5_enter hC hS) dL_enter_1 cwL_26 okX5_enter rfl hC.k0 rfl rfl (by omega) rfl (Nat.le_of_ble_eq_true rfl) (by omega) (by omega) (fun E wN hN => ?_) (fun v wN hN => ?_)
  · obtain ⟨rfl, rfl, hP⟩ := hN
    refine z_Xat (x := ⟨0, 4, 5, 30⟩) (pre := []) (suf := []) z_cISE rfl (fun _ h => absurd h List.not_mem_nil) (by decide) (by decide) z_cl30 (fun q => ?_)
    show z_E _ zL_enter _ _ 5 _ _ _ _ _
    refine z_astore1 (pc := 5) dL_enter_5 (by first | rfl | exact z_isr_rf _) ?_
    refine z_ldc (pc := 6) dL_enter_6 cc32 ?_
    refine z_iret (pc := 8) dL_enter_8 rfl (Or.inr ⟨hP, rfl, rfl⟩)
  · obtain ⟨rfl, hn8, hf2, A', hA, hC2⟩ := hN
    refine z_iret (pc := 4) dL_enter_4 rfl (Or.inl ⟨hn8, rfl, A', _, _, hA, (by rw [z_sO_f _ _ _ (by decide)]), hJ.enter hn8, hK.enter hS, hC2, fun a ha => (hf2 a ha).trans (hf a ha)⟩)
theorem wL_begin (hV : z_V G F a0 ws I N oc B w) (x y : Int32) : z_MW G zL_begin 8 [.ref a0, .int x, .int y] w 4 30 (fun v w' => (∃ p1 p2, p1 < N 0 0 ∧ p2 < N 0 0 ∧ x = nI p1 ∧ y = nI p2 ∧ x ≠ y ∧ oc = none ∧ N 1 0 < 60 ∧ v = some (.int (nI (N 1 0))) ∧ z_V G F a0 ws (z_IG I (N 1 0)) (z_NB N p1 p2) (some (N 1 0)) B w') ∨ (w' = w ∧ ((¬ (z_rg x (N 0 0) ∧ z_rg y (N 0 0)) ∧ v = some (.int (-1000001))) ∨ ((z_rg x (N 0 0) ∧ z_rg y (N 0 0)) ∧ x = y ∧ v = some (.int (-1000002))) ∨ ((z_rg x (N 0 0) ∧ z_rg y (N 0 0)) ∧ x ≠ y ∧ ¬ (oc = none ∧ N 1 0 < 60) ∧ v = some (.int (-1000003)))))) z_nx := by
  obtain ⟨A, O, M, rfl, rfl, hJ, hK, hC, hf⟩ := hV
  have hS := hJ.1
  have e6 := hS.1
  have e8 := hS.2.2.1
  have h8 := hS.2.2.2.1
  have h40 := hS.2.2.2.2.2.1
  refine z_MW.of (by decide +kernel) (by intro v hv; simp only [List.mem_cons, List.not_mem_nil, or_false] at hv; rcases hv with rfl | rfl | rfl <;> rfl) (Nat.le_of_ble_eq_true rfl) ?_
  show z_E _ zL_begin _ _ 0 [some (.ref (A 0 0 0)), some (.int x), some (.int y), none] [] _ _ _
  refine z_aload_n (pc := 0) dL_begin_0 rfl (by first | rfl | exact z_isr_rf _) ?_
  refine z_iload_n (pc := 1) dL_begin_1 rfl ?_
  refine z_iload_n (pc := 2) dL_begin_2 rfl ?_
  refine z_callV (pc := 3) (mX5_begin hC hS x y) dL_begin_3 cwL_33 okX5_begin rfl hC.k0 rfl rfl (by omega) rfl (Nat.le_of_ble_eq_true rfl) (by omega) (by omega) (fun E wN hN => ?_) (fun v wN hN => ?_)
  · obtain ⟨rfl, ⟨rfl, hP⟩ | ⟨rfl, hP, hP2⟩ | ⟨rfl, hP, hP2, hP3⟩⟩ := hN
    · refine z_Xat (x := ⟨0, 6, 7, 36⟩) (pre := []) (suf := [⟨0, 6, 11, 16⟩, ⟨0, 6, 15, 30⟩]) z_cIOE rfl (fun _ h => absurd h List.not_mem_nil) (by decide) (by decide) z_cl36 (fun q => ?_)
      show z_E _ zL_begin _ _ 7 _ _ _ _ _
      refine z_astore3 (pc := 7) dL_begin_7 (by first | rfl | exact z_isr_rf _) ?_
      refine z_ldc (pc := 8) dL_begin_8 cc38 ?_
      refine z_iret (pc := 10) dL_begin_10 rfl (Or.inr ⟨rfl, Or.inl ⟨by rw [e6] at hP; exact hP, rfl⟩⟩)
    · refine z_Xat (x := ⟨0, 6, 11, 16⟩) (pre := [⟨0, 6, 7, 36⟩]) (suf := [⟨0, 6, 15, 30⟩]) z_cIAE rfl (List.forall_mem_cons.mpr ⟨⟨by decide, IOE, z_cl36, z_n1⟩, fun _ h => absurd h List.not_mem_nil⟩) (by decide) (by decide) z_cl16 (fun q => ?_)
      show z_E _ zL_begin _ _ 11 _ _ _ _ _
      refine z_astore3 (pc := 11) dL_begin_11 (by first | rfl | exact z_isr_rf _) ?_
      refine z_ldc (pc := 12) dL_begin_12 cc18 ?_
      refine z_iret (pc := 14) dL_begin_14 rfl (Or.inr ⟨rfl, Or.inr (Or.inl ⟨by rw [e6] at hP; exact hP, Classical.not_not.1 hP2, rfl⟩)⟩)
    · refine z_Xat (x := ⟨0, 6, 15, 30⟩) (pre := [⟨0, 6, 7, 36⟩, ⟨0, 6, 11, 16⟩]) (suf := []) z_cISE rfl (List.forall_mem_cons.mpr ⟨⟨by decide, IOE, z_cl36, z_n2⟩, List.forall_mem_cons.mpr ⟨⟨by decide, IAE, z_cl16, z_n3⟩, fun _ h => absurd h List.not_mem_nil⟩⟩) (by decide) (by decide) z_cl30 (fun q => ?_)
      show z_E _ zL_begin _ _ 15 _ _ _ _ _
      refine z_astore3 (pc := 15) dL_begin_15 (by first | rfl | exact z_isr_rf _) ?_
      refine z_ldc (pc := 16) dL_begin_16 cc32 ?_
      refine z_iret (pc := 18) dL_begin_18 rfl (Or.inr ⟨rfl, Or.inr (Or.inr ⟨by rw [e6] at hP; exact hP, hP2, hP3, rfl⟩)⟩)
  · obtain ⟨rfl, ho, hn60, hf2, p1, p2, A', hp1, hp2, rfl, rfl, hne, hA, hC2⟩ := hN
    have hnp : p1 ≠ p2 := fun z => hne (by rw [z])
    refine z_iret (pc := 6) dL_begin_6 rfl (Or.inl ⟨p1, p2, by omega, by omega, rfl, rfl, hne, ho, hn60, rfl, A', _, _, hA, z_sO_s _ _ _ _, hJ.begin ho hn60 (by omega) (by omega) hnp, hK.begin hS ho, hC2, fun a ha => (hf2 a ha).trans (hf a ha)⟩)
theorem wL_move (hV : z_V G F a0 ws I N oc B w) (x : Int32) : z_MW G zL_move 8 [.ref a0, .int x] w 2 12 (fun v w' => (∃ g, oc = some g ∧ N 5 g < 12 ∧ z_rg x 4 ∧ v = some (.int (blC (I 6 g 0) x)) ∧ z_V G F a0 ws (z_sI (z_sI I 8 g (N 5 g) x) 6 g 0 (nx (I 6 g 0) x)) (z_sN N 5 g (N 5 g + 1)) oc B w') ∨ (w' = w ∧ ((¬ z_rg x 4 ∧ v = some (.int (-1000002))) ∨ (z_rg x 4 ∧ (¬ ∃ g, oc = some g ∧ N 5 g < 12) ∧ v = some (.int (-1000003)))))) z_nx := by
  obtain ⟨A, O, M, rfl, rfl, hJ, hK, hC, hf⟩ := hV
  have hS := hJ.1
  have e6 := hS.1
  have e8 := hS.2.2.1
  have h8 := hS.2.2.2.1
  have h40 := hS.2.2.2.2.2.1
  refine z_MW.of (by decide +kernel) (by intro v hv; simp only [List.mem_cons, List.not_mem_nil, or_false] at hv; rcases hv with rfl | rfl <;> rfl) (Nat.le_of_ble_eq_true rfl) ?_
  show z_E _ zL_move _ _ 0 [some (.ref (A 0 0 0)), some (.int x), none] [] _ _ _
  refine z_aload_n (pc := 0) dL_move_0 rfl (by first | rfl | exact z_isr_rf _) ?_
  refine z_iload_n (pc := 1) dL_move_1 rfl ?_
  refine z_callV (pc := 2) (mX5_move hC hS x) dL_move_2 cwL_39 okX5_move rfl hC.k0 rfl rfl (by omega) rfl (Nat.le_of_ble_eq_true rfl) (by omega) (by omega) (fun E wN hN => ?_) (fun v wN hN => ?_)
  · obtain ⟨rfl, ⟨rfl, hP⟩ | ⟨rfl, hP, hP2⟩⟩ := hN
    · refine z_Xat (x := ⟨0, 13, 14, 16⟩) (pre := []) (suf := [⟨0, 13, 18, 30⟩]) z_cIAE rfl (fun _ h => absurd h List.not_mem_nil) (by decide) (by decide) z_cl16 (fun q => ?_)
      show z_E _ zL_move _ _ 14 _ _ _ _ _
      refine z_astore2 (pc := 14) dL_move_14 (by first | rfl | exact z_isr_rf _) ?_
      refine z_ldc (pc := 15) dL_move_15 cc18 ?_
      refine z_iret (pc := 17) dL_move_17 rfl (Or.inr ⟨rfl, Or.inl ⟨hP, rfl⟩⟩)
    · refine z_Xat (x := ⟨0, 13, 18, 30⟩) (pre := [⟨0, 13, 14, 16⟩]) (suf := []) z_cISE rfl (List.forall_mem_cons.mpr ⟨⟨by decide, IAE, z_cl16, z_n3⟩, fun _ h => absurd h List.not_mem_nil⟩) (by decide) (by decide) z_cl30 (fun q => ?_)
      show z_E _ zL_move _ _ 18 _ _ _ _ _
      refine z_astore2 (pc := 18) dL_move_18 (by first | rfl | exact z_isr_rf _) ?_
      refine z_ldc (pc := 19) dL_move_19 cc32 ?_
      refine z_iret (pc := 21) dL_move_21 rfl (Or.inr ⟨rfl, Or.inr ⟨hP, hP2, rfl⟩⟩)
  · obtain ⟨g, ho, h12, hx, rfl, hf2, hC2⟩ := hN
    refine z_if_eq (pc := 5) (tgt := 12) dL_move_5 (by decide) (fun hz => ?_) (fun hz => ?_)
    · refine z_iconst_0 (pc := 12) dL_move_12 ?_
      refine z_iret (pc := 13) dL_move_13 rfl (Or.inl ⟨g, ho, h12, hx, by rw [hz], A, O, _, rfl, rfl, hJ.move ho h12 hx, hK.move hS ho, hC2, fun a ha => (hf2 a ha).trans (hf a ha)⟩)
    · refine z_iconst_1 (pc := 8) dL_move_8 ?_
      refine z_goto (pc := 9) (tgt := 13) dL_move_9 (by decide) ?_
      refine z_iret (pc := 13) dL_move_13 rfl (Or.inl ⟨g, ho, h12, hx, by rw [(show blC (I 6 g 0) x = 0 ∨ blC (I 6 g 0) x = 1 from z_01 _).resolve_left hz], A, O, _, rfl, rfl, hJ.move ho h12 hx, hK.move hS ho, hC2, fun a ha => (hf2 a ha).trans (hf a ha)⟩)
end WRP3

