section WRP4
variable {G : z_G} {F : Nat → Prop} {a0 : Nat} {ws w : z_W} {I : z_TI} {N : z_TN} {oc : Option Nat} {B : z_TB}
theorem wL_end (hV : z_V G F a0 ws I N oc B w) (x : Int32) : z_MW G zL_end 8 [.ref a0, .int x] w 24 84 (fun v w' => (∃ g, oc = some g ∧ z_rg x 3 ∧ v = some (.int (z_EI I N B g x).2.2) ∧ z_endP I N oc g x (z_EI I N B g x).1 (z_EI I N B g x).2.1 (z_EI I N B g x).2.2 ∧ z_V G F a0 ws (z_EI I N B g x).1 (z_EI I N B g x).2.1 none (z_k1 (z_e2 I N g x) N B g).2 w') ∨ (w' = w ∧ ((¬ z_rg x 3 ∧ v = some (.int (-1000002))) ∨ (z_rg x 3 ∧ (¬ ∃ g, oc = some g) ∧ v = some (.int (-1000003)))))) z_nx := by
  obtain ⟨A, O, M, rfl, rfl, hJ, hK, hC, hf⟩ := hV
  have hS := hJ.1
  have e6 := hS.1
  have e8 := hS.2.2.1
  have h8 := hS.2.2.2.1
  have h40 := hS.2.2.2.2.2.1
  have hmv : ∀ g i, g < N 1 0 → i < N 5 g → z_rg (I 8 g i) 4 := fun g i a b => ((hJ.2.2.2.1.2.2.2.1 g a).2.2.2.2.2.2 i b).2
  refine z_MW.of (by decide +kernel) (by intro v hv; simp only [List.mem_cons, List.not_mem_nil, or_false] at hv; rcases hv with rfl | rfl <;> rfl) (Nat.le_of_ble_eq_true rfl) ?_
  show z_E _ zL_end _ _ 0 [some (.ref (A 0 0 0)), some (.int x), none] [] _ _ _
  refine z_aload_n (pc := 0) dL_end_0 rfl (by first | rfl | exact z_isr_rf _) ?_
  refine z_iload_n (pc := 1) dL_end_1 rfl ?_
  refine z_callV (pc := 2) (mX5_end hC hS hJ.2.1 hmv x) dL_end_2 cwL_43 okX5_end rfl hC.k0 rfl rfl (by omega) rfl (Nat.le_of_ble_eq_true rfl) (by omega) (by omega) (fun E wN hN => ?_) (fun v wN hN => ?_)
  · obtain ⟨rfl, ⟨rfl, hP⟩ | ⟨rfl, hP, hP2⟩⟩ := hN
    · refine z_Xat (x := ⟨0, 5, 6, 16⟩) (pre := []) (suf := [⟨0, 5, 10, 30⟩]) z_cIAE rfl (fun _ h => absurd h List.not_mem_nil) (by decide) (by decide) z_cl16 (fun q => ?_)
      show z_E _ zL_end _ _ 6 _ _ _ _ _
      refine z_astore2 (pc := 6) dL_end_6 (by first | rfl | exact z_isr_rf _) ?_
      refine z_ldc (pc := 7) dL_end_7 cc18 ?_
      refine z_iret (pc := 9) dL_end_9 rfl (Or.inr ⟨rfl, Or.inl ⟨hP, rfl⟩⟩)
    · refine z_Xat (x := ⟨0, 5, 10, 30⟩) (pre := [⟨0, 5, 6, 16⟩]) (suf := []) z_cISE rfl (List.forall_mem_cons.mpr ⟨⟨by decide, IAE, z_cl16, z_n3⟩, fun _ h => absurd h List.not_mem_nil⟩) (by decide) (by decide) z_cl30 (fun q => ?_)
      show z_E _ zL_end _ _ 10 _ _ _ _ _
      refine z_astore2 (pc := 10) dL_end_10 (by first | rfl | exact z_isr_rf _) ?_
      refine z_ldc (pc := 11) dL_end_11 cc32 ?_
      refine z_iret (pc := 13) dL_end_13 rfl (Or.inr ⟨rfl, Or.inr ⟨hP, hP2, rfl⟩⟩)
  · obtain ⟨g, ho, hx, hf2, rfl, A', hA, hC2⟩ := hN
    obtain ⟨⟨M2, hJ2⟩, hK2, hE⟩ := z_endK hJ hK ho hx
    refine z_iret (pc := 5) dL_end_5 rfl (Or.inl ⟨g, ho, hx, rfl, hE, A', _, M2, hA, z_sO_s _ _ _ _, hJ2, hK2, hC2, fun a ha => (hf2 a ha).trans (hf a ha)⟩)
theorem wL_solve (hV : z_V G F a0 ws I N oc B w) (x y m : Int32) : z_MW G zL_solve 8 [.ref a0, .int x, .int y, .int m] w 4 24 (fun v w' => (∃ p z, p < N 0 0 ∧ z < N 2 0 ∧ x = nI p ∧ y = nI z ∧ z_rg m 4 ∧ I 4 p z = 0 ∧ v = some (.int (if m = bst (I 9 z 0) then 1 else 0)) ∧ z_V G F a0 ws (z_sI (z_sI I 4 p z 1) 3 p (z_th I z) (rb (I 3 p (z_th I z)) (if m = bst (I 9 z 0) then 1 else 0))) N oc B w') ∨ (w' = w ∧ ((¬ (z_rg x (N 0 0) ∧ z_rg y (N 2 0)) ∧ v = some (.int (-1000001))) ∨ ((z_rg x (N 0 0) ∧ z_rg y (N 2 0)) ∧ ¬ z_rg m 4 ∧ v = some (.int (-1000002))) ∨ ((z_rg x (N 0 0) ∧ z_rg y (N 2 0)) ∧ z_rg m 4 ∧ (¬ ∀ p z, x = nI p → y = nI z → p < N 0 0 → z < N 2 0 → I 4 p z = 0) ∧ v = some (.int (-1000003)))))) z_nx := by
  obtain ⟨A, O, M, rfl, rfl, hJ, hK, hC, hf⟩ := hV
  have hS := hJ.1
  have e6 := hS.1
  have e8 := hS.2.2.1
  have h8 := hS.2.2.2.1
  have h40 := hS.2.2.2.2.2.1
  have hT := hJ.hT
  refine z_MW.of (by decide +kernel) (by intro v hv; simp only [List.mem_cons, List.not_mem_nil, or_false] at hv; rcases hv with rfl | rfl | rfl | rfl <;> rfl) (Nat.le_of_ble_eq_true rfl) ?_
  show z_E _ zL_solve _ _ 0 [some (.ref (A 0 0 0)), some (.int x), some (.int y), some (.int m), none] [] _ _ _
  refine z_aload_n (pc := 0) dL_solve_0 rfl (by first | rfl | exact z_isr_rf _) ?_
  refine z_iload_n (pc := 1) dL_solve_1 rfl ?_
  refine z_iload_n (pc := 2) dL_solve_2 rfl ?_
  refine z_iload_n (pc := 3) dL_solve_3 rfl ?_
  refine z_callV (pc := 4) (mX5_solve hC hS hT x y m) dL_solve_4 cwL_55 okX5_solve rfl hC.k0 rfl rfl (by omega) rfl (Nat.le_of_ble_eq_true rfl) (by omega) (by omega) (fun E wN hN => ?_) (fun v wN hN => ?_)
  · obtain ⟨rfl, hN⟩ := hN
    rw [e6, e8] at hN
    rcases hN with ⟨rfl, hP⟩ | ⟨rfl, hP, hP2⟩ | ⟨rfl, hP, hP2, hP3⟩
    · refine z_Xat (x := ⟨0, 15, 16, 36⟩) (pre := []) (suf := [⟨0, 15, 21, 16⟩, ⟨0, 15, 26, 30⟩]) z_cIOE rfl (fun _ h => absurd h List.not_mem_nil) (by decide) (by decide) z_cl36 (fun q => ?_)
      show z_E _ zL_solve _ _ 16 _ _ _ _ _
      refine z_astore4 (pc := 16) dL_solve_16 (by first | rfl | exact z_isr_rf _) ?_
      refine z_ldc (pc := 18) dL_solve_18 cc38 ?_
      refine z_iret (pc := 20) dL_solve_20 rfl (Or.inr ⟨rfl, Or.inl ⟨hP, rfl⟩⟩)
    · refine z_Xat (x := ⟨0, 15, 21, 16⟩) (pre := [⟨0, 15, 16, 36⟩]) (suf := [⟨0, 15, 26, 30⟩]) z_cIAE rfl (List.forall_mem_cons.mpr ⟨⟨by decide, IOE, z_cl36, z_n1⟩, fun _ h => absurd h List.not_mem_nil⟩) (by decide) (by decide) z_cl16 (fun q => ?_)
      show z_E _ zL_solve _ _ 21 _ _ _ _ _
      refine z_astore4 (pc := 21) dL_solve_21 (by first | rfl | exact z_isr_rf _) ?_
      refine z_ldc (pc := 23) dL_solve_23 cc18 ?_
      refine z_iret (pc := 25) dL_solve_25 rfl (Or.inr ⟨rfl, Or.inr (Or.inl ⟨hP, hP2, rfl⟩)⟩)
    · refine z_Xat (x := ⟨0, 15, 26, 30⟩) (pre := [⟨0, 15, 16, 36⟩, ⟨0, 15, 21, 16⟩]) (suf := []) z_cISE rfl (List.forall_mem_cons.mpr ⟨⟨by decide, IOE, z_cl36, z_n2⟩, List.forall_mem_cons.mpr ⟨⟨by decide, IAE, z_cl16, z_n3⟩, fun _ h => absurd h List.not_mem_nil⟩⟩) (by decide) (by decide) z_cl30 (fun q => ?_)
      show z_E _ zL_solve _ _ 26 _ _ _ _ _
      refine z_astore4 (pc := 26) dL_solve_26 (by first | rfl | exact z_isr_rf _) ?_
      refine z_ldc (pc := 28) dL_solve_28 cc32 ?_
      refine z_iret (pc := 30) dL_solve_30 rfl (Or.inr ⟨rfl, Or.inr (Or.inr ⟨hP, hP2, hP3, rfl⟩)⟩)
  · obtain ⟨p, z, hp, hz2, rfl, rfl, hm, h4, rfl, hf2, hC2⟩ := hN
    have ht : z_th I z < 5 := Nat.mod_lt _ (by omega)
    obtain ⟨b, hb, h1, h2⟩ := hK.1 p (by omega) (z_th I z) ht
    have hv : z_rg (rb (I 3 p (z_th I z)) (if m = bst (I 9 z 0) then 1 else 0)) 3001 := by
        obtain ⟨-, b2, e, -, g2⟩ := z_rb_k (a := b) (s := if m = bst (I 9 z 0) then 1 else 0) h1 h2 (z_10 _)
        rw [hb]
        exact ⟨b2, by omega, e⟩
    refine z_if_eq (pc := 7) (tgt := 14) dL_solve_7 (by decide) (fun hz => ?_) (fun hz => ?_)
    · refine z_iconst_0 (pc := 14) dL_solve_14 ?_
      refine z_iret (pc := 15) dL_solve_15 rfl (Or.inl ⟨p, z, by omega, by omega, rfl, rfl, hm, h4, by rw [hz], A, O, _, rfl, rfl, hJ.solve (by omega) (by omega) ht hv, hK.solve hS (by omega) ht (z_10 _), hC2, fun a ha => (hf2 a ha).trans (hf a ha)⟩)
    · refine z_iconst_1 (pc := 10) dL_solve_10 ?_
      refine z_goto (pc := 11) (tgt := 15) dL_solve_11 (by decide) ?_
      refine z_iret (pc := 15) dL_solve_15 rfl (Or.inl ⟨p, z, by omega, by omega, rfl, rfl, hm, h4, by rw [(z_10 (m = bst (I 9 z 0))).resolve_left hz], A, O, _, rfl, rfl, hJ.solve (by omega) (by omega) ht hv, hK.solve hS (by omega) ht (z_10 _), hC2, fun a ha => (hf2 a ha).trans (hf a ha)⟩)
theorem wL_opponent (hV : z_V G F a0 ws I N oc B w) (x : Int32) : z_MW G zL_opponent 8 [.ref a0, .int x] w 1 6 (fun v w' => v = some (.int (z_if (z_rg x (N 0 0)) (z_fi (z_op I N x.toNatClampNeg)) (-1000001))) ∧ z_V G F a0 ws I N oc B w') z_nx := by
  obtain ⟨A, O, M, rfl, rfl, hJ, hK, hC, hf⟩ := hV
  have hS := hJ.1
  have e6 := hS.1
  have e8 := hS.2.2.1
  have h8 := hS.2.2.2.1
  have h40 := hS.2.2.2.2.2.1
  have hO0 : z_pt I N O 0 0 = O 0 0 := z_pt_0 I N O
  have hJ2 : z_J I N (z_pt I N O) B M := hJ.reO hO0 (fun p q hp hq => by have := z_pt_lt hS hq (by omega); omega)
  have hK2 : z_K I N (z_pt I N O) := hK.reO hO0
  refine z_MW.of (by decide +kernel) (by intro v hv; simp only [List.mem_cons, List.not_mem_nil, or_false] at hv; rcases hv with rfl | rfl <;> rfl) (Nat.le_of_ble_eq_true rfl) ?_
  show z_E _ zL_opponent _ _ 0 [some (.ref (A 0 0 0)), some (.int x), none] [] _ _ _
  refine z_aload_n (pc := 0) dL_opponent_0 rfl (by first | rfl | exact z_isr_rf _) ?_
  refine z_iload_n (pc := 1) dL_opponent_1 rfl ?_
  refine z_callV (pc := 2) (mX5_opponent hC hS x) dL_opponent_2 cwL_83 okX5_opponent rfl hC.k0 rfl rfl (by omega) rfl (Nat.le_of_ble_eq_true rfl) (by omega) (by omega) (fun E wN hN => ?_) (fun v wN hN => ?_)
  · obtain ⟨rfl, rfl, hP⟩ := hN
    refine z_Xat (x := ⟨0, 5, 6, 36⟩) (pre := []) (suf := []) z_cIOE rfl (fun _ h => absurd h List.not_mem_nil) (by decide) (by decide) z_cl36 (fun q => ?_)
    show z_E _ zL_opponent _ _ 6 _ _ _ _ _
    refine z_astore2 (pc := 6) dL_opponent_6 (by first | rfl | exact z_isr_rf _) ?_
    refine z_ldc (pc := 7) dL_opponent_7 cc38 ?_
    refine z_iret (pc := 9) dL_opponent_9 rfl (⟨by rw [z_if_f (fun z => hP (by rw [e6]; exact z))], A, O, M, rfl, rfl, hJ, hK, hC, hf⟩)
  · obtain ⟨p, hp, rfl, rfl, hf2, hC2⟩ := hN
    refine z_iret (pc := 5) dL_opponent_5 rfl (⟨by rw [z_if_t ⟨p, by omega, rfl⟩, nI_clamp (show p < 2 ^ 31 by omega), z_op, z_pt_c (by omega) (fun _ _ => none) O hp], A, z_pt I N O, M, rfl, hO0, hJ2, hK2, hC2, fun a ha => (hf2 a ha).trans (hf a ha)⟩)
theorem wL_hasWhite (hV : z_V G F a0 ws I N oc B w) (x : Int32) : z_MW G zL_hasWhite 8 [.ref a0, .int x] w 2 12 (fun v w' => v = some (.int (z_if (z_rg x (N 0 0)) (z_hwo I N x.toNatClampNeg) (-1000001))) ∧ z_V G F a0 ws I N oc B w') z_nx := by
  obtain ⟨A, O, M, rfl, rfl, hJ, hK, hC, hf⟩ := hV
  have hS := hJ.1
  have e6 := hS.1
  have e8 := hS.2.2.1
  have h8 := hS.2.2.2.1
  have h40 := hS.2.2.2.2.2.1
  have hO0 : z_pt I N O 0 0 = O 0 0 := z_pt_0 I N O
  have hJ2 : z_J I N (z_pt I N O) B M := hJ.reO hO0 (fun p q hp hq => by have := z_pt_lt hS hq (by omega); omega)
  have hK2 : z_K I N (z_pt I N O) := hK.reO hO0
  refine z_MW.of (by decide +kernel) (by intro v hv; simp only [List.mem_cons, List.not_mem_nil, or_false] at hv; rcases hv with rfl | rfl <;> rfl) (Nat.le_of_ble_eq_true rfl) ?_
  show z_E _ zL_hasWhite _ _ 0 [some (.ref (A 0 0 0)), some (.int x), none] [] _ _ _
  refine z_aload_n (pc := 0) dL_hasWhite_0 rfl (by first | rfl | exact z_isr_rf _) ?_
  refine z_iload_n (pc := 1) dL_hasWhite_1 rfl ?_
  refine z_callV (pc := 2) (mX5_hasWhite hC hS x) dL_hasWhite_2 cwL_86 okX5_hasWhite rfl hC.k0 rfl rfl (by omega) rfl (Nat.le_of_ble_eq_true rfl) (by omega) (by omega) (fun E wN hN => ?_) (fun v wN hN => ?_)
  · obtain ⟨hf2, ⟨rfl, rfl, hP⟩ | ⟨rfl, hC2, p, hp, rfl, hpn⟩⟩ := hN
    · refine z_Xat (x := ⟨0, 13, 14, 36⟩) (pre := []) (suf := [⟨0, 13, 18, 30⟩]) z_cIOE rfl (fun _ h => absurd h List.not_mem_nil) (by decide) (by decide) z_cl36 (fun q => ?_)
      show z_E _ zL_hasWhite _ _ 14 _ _ _ _ _
      refine z_astore2 (pc := 14) dL_hasWhite_14 (by first | rfl | exact z_isr_rf _) ?_
      refine z_ldc (pc := 15) dL_hasWhite_15 cc38 ?_
      refine z_iret (pc := 17) dL_hasWhite_17 rfl (⟨by rw [z_if_f (fun z => hP (by rw [e6]; exact z))], A, O, M, rfl, rfl, hJ, hK, hC, hf⟩)
    · refine z_Xat (x := ⟨0, 13, 18, 30⟩) (pre := [⟨0, 13, 14, 36⟩]) (suf := []) z_cISE rfl (List.forall_mem_cons.mpr ⟨⟨by decide, IOE, z_cl36, z_n2⟩, fun _ h => absurd h List.not_mem_nil⟩) (by decide) (by decide) z_cl30 (fun q => ?_)
      show z_E _ zL_hasWhite _ _ 18 _ _ _ _ _
      refine z_astore2 (pc := 18) dL_hasWhite_18 (by first | rfl | exact z_isr_rf _) ?_
      refine z_ldc (pc := 19) dL_hasWhite_19 cc32 ?_
      refine z_iret (pc := 21) dL_hasWhite_21 rfl (⟨by rw [z_if_t ⟨p, by omega, rfl⟩, nI_clamp (show p < 2 ^ 31 by omega), z_hwo, z_op, z_pt_c (by omega) O (fun _ _ => none) hp, hpn], A, z_pt I N O, M, rfl, hO0, hJ2, hK2, hC2, fun a ha => (hf2 a ha).trans (hf a ha)⟩)
  · obtain ⟨p, q, hp, rfl, hpq, rfl, hf2, hC2⟩ := hN
    have hpq2 : z_op I N p = some q := by rw [z_op, z_pt_c (by omega) O (fun _ _ => none) hp]; exact hpq
    have hv : z_hwo I N p = z_b (z_hw I p q) := by unfold z_hwo; rw [hpq2]
    refine z_if_eq (pc := 5) (tgt := 12) dL_hasWhite_5 (by decide) (fun hz => ?_) (fun hz => ?_)
    · refine z_iconst_0 (pc := 12) dL_hasWhite_12 ?_
      refine z_iret (pc := 13) dL_hasWhite_13 rfl (⟨by rw [z_if_t ⟨p, by omega, rfl⟩, nI_clamp (show p < 2 ^ 31 by omega), hv]; exact congrArg (fun t => some (Value.int t)) (Eq.symm (show z_b (z_hw I p q) = 0 from hz)), A, z_pt I N O, M, rfl, hO0, hJ2, hK2, hC2, fun a ha => (hf2 a ha).trans (hf a ha)⟩)
    · refine z_iconst_1 (pc := 8) dL_hasWhite_8 ?_
      refine z_goto (pc := 9) (tgt := 13) dL_hasWhite_9 (by decide) ?_
      refine z_iret (pc := 13) dL_hasWhite_13 rfl (⟨by rw [z_if_t ⟨p, by omega, rfl⟩, nI_clamp (show p < 2 ^ 31 by omega), hv]; exact congrArg (fun t => some (Value.int t)) (Eq.symm ((z_b_01 (z_hw I p q)).resolve_left hz)), A, z_pt I N O, M, rfl, hO0, hJ2, hK2, hC2, fun a ha => (hf2 a ha).trans (hf a ha)⟩)
end WRP4

