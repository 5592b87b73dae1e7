/-! the law's wrappers of the class's calls (laid by a program) -/
theorem z_v01 : vp_in (0 : Int32) 1 := by unfold vp_in; decide
theorem z_up0 (f : Nat → Int64) (x : Int64) : vp_updL f (0 : Int32).toNatClampNeg x 0 = x := rfl
/-- a call that throws leaves the state: the first of the conditions that doesn't hold -/
def z_Q3 (P1 P2 P3 : Prop) (I : z_TI) (N : z_TN) (O : z_TO) (B : z_TB) : z_TQ := fun k _ I' N' O' B' => (I' = I ∧ N' = N ∧ O' = O ∧ B' = B) ∧ ((¬ P1 ∧ k = 1) ∨ (P1 ∧ ¬ P2 ∧ k = 2) ∨ (P1 ∧ P2 ∧ ¬ P3 ∧ k = 3))
def z_Qenter (I : z_TI) (N : z_TN) (O : z_TO) (B : z_TB) : z_TQ := fun k r I' N' O' B' => (N 0 0 < 8 ∧ k = 0 ∧ r = nI (N 0 0) ∧ I' = z_IP I (N 0 0) ∧ N' = z_NP N ∧ O' = z_sO O 1 (N 0 0) none ∧ B' = B) ∨ z_Q3 (N 0 0 < 8) True True I N O B k r I' N' O' B'
def z_Qbegin (x y : Int32) (I : z_TI) (N : z_TN) (O : z_TO) (B : z_TB) : z_TQ := fun k r I' N' O' B' => (∃ p1 p2, p1 < N 6 0 ∧ p2 < N 6 0 ∧ x = nI p1 ∧ y = nI p2 ∧ x ≠ y ∧ O 0 0 = none ∧ N 1 0 < 60 ∧ k = 0 ∧ r = nI (N 1 0) ∧ I' = z_IG I (N 1 0) ∧ N' = z_NB N p1 p2 ∧ O' = z_sO O 0 0 (some (N 1 0)) ∧ B' = B) ∨ z_Q3 (z_rg x (N 6 0) ∧ z_rg y (N 6 0)) (x ≠ y) (O 0 0 = none ∧ N 1 0 < 60) I N O B k r I' N' O' B'
def z_Qmove (x : Int32) (I : z_TI) (N : z_TN) (O : z_TO) (B : z_TB) : z_TQ := fun k r I' N' O' B' => (∃ g, O 0 0 = some g ∧ N 5 g < 12 ∧ z_rg x 4 ∧ k = 0 ∧ r = blC (I 6 g 0) x ∧ I' = z_sI (z_sI I 8 g (N 5 g) x) 6 g 0 (nx (I 6 g 0) x) ∧ N' = z_sN N 5 g (N 5 g + 1) ∧ O' = O ∧ B' = B) ∨ z_Q3 (z_rg x 4) (∃ g, O 0 0 = some g ∧ N 5 g < 12) True I N O B k r I' N' O' B'
def z_Qend (x : Int32) (I : z_TI) (N : z_TN) (O : z_TO) (B : z_TB) : z_TQ := fun k r I' N' O' B' => (∃ g, O 0 0 = some g ∧ z_rg x 3 ∧ k = 0 ∧ r = (z_mk (nI (N 1 0) - 1) (I 8 g) (N 5 g) (z_kI (z_e2 I N g x) N B g) N 0 1 0).2.2 ∧ I' = (z_mk (nI (N 1 0) - 1) (I 8 g) (N 5 g) (z_kI (z_e2 I N g x) N B g) N 0 1 0).1 ∧ N' = (z_mk (nI (N 1 0) - 1) (I 8 g) (N 5 g) (z_kI (z_e2 I N g x) N B g) N 0 1 0).2.1 ∧ O' = z_sO O 0 0 none ∧ B' = (z_k1 (z_e2 I N g x) N B g).2) ∨ z_Q3 (z_rg x 3) (∃ g, O 0 0 = some g) True I N O B k r I' N' O' B'
def z_Qsolve (x y m : Int32) (I : z_TI) (N : z_TN) (O : z_TO) (B : z_TB) : z_TQ := fun k r I' N' O' B' => (∃ p z, p < N 6 0 ∧ z < N 8 0 ∧ x = nI p ∧ y = nI z ∧ z_rg m 4 ∧ I 4 p z = 0 ∧ k = 0 ∧ r = (if m = bst (I 9 z 0) then 1 else 0) ∧ I' = z_sI (z_sI I 4 p z 1) 3 p (z_th I z) (rb (I 3 p (z_th I z)) (if m = bst (I 9 z 0) then 1 else 0)) ∧ N' = N ∧ O' = O ∧ B' = B) ∨ z_Q3 (z_rg x (N 6 0) ∧ z_rg y (N 8 0)) (z_rg m 4) (∀ p z, x = nI p → y = nI z → p < N 6 0 → z < N 8 0 → I 4 p z = 0) I N O B k r I' N' O' B'
def z_Qrating (x y : Int32) (I : z_TI) (N : z_TN) (O : z_TO) (B : z_TB) : z_TQ := fun k r I' N' O' B' => (∃ p t, p < N 6 0 ∧ x = nI p ∧ t < 5 ∧ y = nI t ∧ k = 0 ∧ r = I 3 p t ∧ I' = I ∧ N' = N ∧ O' = O ∧ B' = B) ∨ z_Q3 (z_rg x (N 6 0)) (z_rg y 5) True I N O B k r I' N' O' B'
def z_Qopponent (x : Int32) (I : z_TI) (N : z_TN) (O : z_TO) (B : z_TB) : z_TQ := fun k r I' N' O' B' => (∃ p, p < N 6 0 ∧ x = nI p ∧ k = 0 ∧ r = z_fi (z_pt I N O 1 p) ∧ I' = I ∧ N' = N ∧ O' = z_pt I N O ∧ B' = B) ∨ z_Q3 (z_rg x (N 6 0)) True True I N O B k r I' N' O' B'
def z_QhasWhite (x : Int32) (I : z_TI) (N : z_TN) (O : z_TO) (B : z_TB) : z_TQ := fun k r I' N' O' B' => (∃ p q, p < N 6 0 ∧ x = nI p ∧ z_pt I N O 1 p = some q ∧ k = 0 ∧ r = z_b (z_hw I p q) ∧ I' = I ∧ N' = N ∧ O' = z_pt I N O ∧ B' = B) ∨ (∃ p, p < N 6 0 ∧ x = nI p ∧ z_pt I N O 1 p = none ∧ k = 2 ∧ I' = I ∧ N' = N ∧ O' = z_pt I N O ∧ B' = B) ∨ z_Q3 (z_rg x (N 6 0)) True True I N O B k r I' N' O' B'
/-- .. with an answer that is 0 or 1 -/
def z_Qz (QK : z_TQ) : z_TQ := fun k r I' N' O' B' => QK k r I' N' O' B' ∧ (k = 0 → r = 0 ∨ r = 1)
def z_Qf (x y : Int32) (I : z_TI) (N : z_TN) (O : z_TO) (B : z_TB) (k : Int32) (r : UInt32) : Prop := (z_ln x y ∧ k = 0 ∧ r = (if B y.toNatClampNeg x.toNatClampNeg = true ∧ I 11 y.toNatClampNeg x.toNatClampNeg ≠ 0 then FP.fdiv (FP.i2f (I 12 y.toNatClampNeg x.toNatClampNeg)) (FP.i2f (I 11 y.toNatClampNeg x.toNatClampNeg)) else FP.fconst0)) ∨ (¬ z_ln x y ∧ k = 1)
section WRP
variable {G : z_G} {A : z_TA} {I : z_TI} {N : z_TN} {O : z_TO} {B : z_TB} {A6 : z_TA} {M : z_TM} {qo qd : Nat} {vo : Nat → Int64} {vd : Nat → UInt64} {w : z_W}
theorem wL_after (h : z_LW G A I N O B A6 M qo qd vo vd w) (hJ : z_J I N O B M) (x y : Int32) : z_MW G zL_after 8 [.ref (A 0 0 0), .int x, .int y, .ref qo] w 24 84 (z_kq G A A6 M qo qd vd (z_Qp (z_rg x 1000 ∧ z_rg y 4) (nx x y) I N O B)) z_nx := by
  have hC := h.1
  have hS := hJ.1
  have h8 : N 6 0 ≤ 8 := by rw [hS.1]; exact hS.2.2.2.1
  have h40 : N 8 0 ≤ 40 := by rw [hS.2.2.1]; exact hS.2.2.2.2.2.1
  refine z_MW.of (by decide +kernel) (by intro v hv; simp only [List.mem_cons, List.not_mem_nil, or_false] at hv; rcases hv with rfl | rfl | rfl | rfl <;> first | rfl | exact z_isr_cat (z_isr_rf _)) (Nat.le_of_ble_eq_true rfl) ?_
  show z_E _ zL_after _ _ 0 [some (.ref (A 0 0 0)), some (.int x), some (.int y), some (.ref qo), none] [] _ _ _
  refine z_aload_n (pc := 0) dL_after_0 rfl (by first | rfl | exact z_isr_rf _) ?_
  refine z_iconst_0 (pc := 1) dL_after_1 ?_
  refine z_aload_n (pc := 2) dL_after_2 rfl (by first | rfl | exact z_isr_rf _) ?_
  refine z_iload_n (pc := 3) dL_after_3 rfl ?_
  refine z_iload_n (pc := 4) dL_after_4 rfl ?_
  refine z_callV (pc := 5) (mX5_after (A := A) x y) dL_after_5 cwL_7 okX5_after rfl hC.k0 rfl rfl (by omega) rfl (Nat.le_of_ble_eq_true rfl) (by omega) (by omega) (fun E wN hN => ?_) (fun v wN hN => ?_)
  · obtain ⟨rfl, rfl, hP⟩ := hN
    refine z_Xat (x := ⟨0, 10, 13, 13⟩) (pre := []) (suf := []) z_cIAE rfl (fun _ h => absurd h List.not_mem_nil) (by decide) (by decide) z_cl13 (fun q => ?_)
    show z_E _ zL_after _ _ 13 _ _ _ _ _
    refine z_astore4 (pc := 13) dL_after_13 (by first | rfl | exact z_isr_rf _) ?_
    refine z_iconst_1 (pc := 15) dL_after_15 ?_
    refine z_iret (pc := 16) dL_after_16 rfl (⟨1, 0, A, I, N, O, B, vo, rfl, ⟨⟨rfl, rfl, rfl, rfl⟩, Or.inr ⟨hP, rfl⟩⟩, fun z => absurd z (by decide), rfl, h⟩)
  · obtain ⟨rfl, rfl, hP⟩ := hN
    refine z_i2l (pc := 8) dL_after_8 ?_
    refine z_last (pc := 9) dL_after_9 (h.2.2.1) (z_v01) ?_
    refine z_goto (pc := 10) (tgt := 17) dL_after_10 (by decide) ?_
    refine z_iconst_0 (pc := 17) dL_after_17 ?_
    refine z_iret (pc := 18) dL_after_18 rfl (⟨0, nx x y, A, I, N, O, B, _, rfl, ⟨⟨rfl, rfl, rfl, rfl⟩, Or.inl ⟨hP, rfl, rfl⟩⟩, fun _ => z_up0 _ _, rfl, h.out _⟩)
theorem wL_worth (h : z_LW G A I N O B A6 M qo qd vo vd w) (hJ : z_J I N O B M) (x : Int32) : z_MW G zL_worth 8 [.ref (A 0 0 0), .int x, .ref qo] w 24 84 (z_kq G A A6 M qo qd vd (z_Qp (z_rg x 1000) (wo x) I N O B)) z_nx := by
  have hC := h.1
  have hS := hJ.1
  have h8 : N 6 0 ≤ 8 := by rw [hS.1]; exact hS.2.2.2.1
  have h40 : N 8 0 ≤ 40 := by rw [hS.2.2.1]; exact hS.2.2.2.2.2.1
  refine z_MW.of (by decide +kernel) (by intro v hv; simp only [List.mem_cons, List.not_mem_nil, or_false] at hv; rcases hv with rfl | rfl | rfl <;> first | rfl | exact z_isr_cat (z_isr_rf _)) (Nat.le_of_ble_eq_true rfl) ?_
  show z_E _ zL_worth _ _ 0 [some (.ref (A 0 0 0)), some (.int x), some (.ref qo), none] [] _ _ _
  refine z_aload_n (pc := 0) dL_worth_0 rfl (by first | rfl | exact z_isr_rf _) ?_
  refine z_iconst_0 (pc := 1) dL_worth_1 ?_
  refine z_aload_n (pc := 2) dL_worth_2 rfl (by first | rfl | exact z_isr_rf _) ?_
  refine z_iload_n (pc := 3) dL_worth_3 rfl ?_
  refine z_callV (pc := 4) (mX5_worth (A := A) x) dL_worth_4 cwL_15 okX5_worth rfl hC.k0 rfl rfl (by omega) rfl (Nat.le_of_ble_eq_true rfl) (by omega) (by omega) (fun E wN hN => ?_) (fun v wN hN => ?_)
  · obtain ⟨rfl, rfl, hP⟩ := hN
    refine z_Xat (x := ⟨0, 9, 12, 13⟩) (pre := []) (suf := []) z_cIAE rfl (fun _ h => absurd h List.not_mem_nil) (by decide) (by decide) z_cl13 (fun q => ?_)
    show z_E _ zL_worth _ _ 12 _ _ _ _ _
    refine z_astore3 (pc := 12) dL_worth_12 (by first | rfl | exact z_isr_rf _) ?_
    refine z_iconst_1 (pc := 13) dL_worth_13 ?_
    refine z_iret (pc := 14) dL_worth_14 rfl (⟨1, 0, A, I, N, O, B, vo, rfl, ⟨⟨rfl, rfl, rfl, rfl⟩, Or.inr ⟨hP, rfl⟩⟩, fun z => absurd z (by decide), rfl, h⟩)
  · obtain ⟨rfl, rfl, hP⟩ := hN
    refine z_i2l (pc := 7) dL_worth_7 ?_
    refine z_last (pc := 8) dL_worth_8 (h.2.2.1) (z_v01) ?_
    refine z_goto (pc := 9) (tgt := 15) dL_worth_9 (by decide) ?_
    refine z_iconst_0 (pc := 15) dL_worth_15 ?_
    refine z_iret (pc := 16) dL_worth_16 rfl (⟨0, wo x, A, I, N, O, B, _, rfl, ⟨⟨rfl, rfl, rfl, rfl⟩, Or.inl ⟨hP, rfl, rfl⟩⟩, fun _ => z_up0 _ _, rfl, h.out _⟩)
theorem wL_best (h : z_LW G A I N O B A6 M qo qd vo vd w) (hJ : z_J I N O B M) (x : Int32) : z_MW G zL_best 8 [.ref (A 0 0 0), .int x, .ref qo] w 24 84 (z_kq G A A6 M qo qd vd (z_Qp (z_rg x 1000) (bst x) I N O B)) z_nx := by
  have hC := h.1
  have hS := hJ.1
  have h8 : N 6 0 ≤ 8 := by rw [hS.1]; exact hS.2.2.2.1
  have h40 : N 8 0 ≤ 40 := by rw [hS.2.2.1]; exact hS.2.2.2.2.2.1
  refine z_MW.of (by decide +kernel) (by intro v hv; simp only [List.mem_cons, List.not_mem_nil, or_false] at hv; rcases hv with rfl | rfl | rfl <;> first | rfl | exact z_isr_cat (z_isr_rf _)) (Nat.le_of_ble_eq_true rfl) ?_
  show z_E _ zL_best _ _ 0 [some (.ref (A 0 0 0)), some (.int x), some (.ref qo), none] [] _ _ _
  refine z_aload_n (pc := 0) dL_best_0 rfl (by first | rfl | exact z_isr_rf _) ?_
  refine z_iconst_0 (pc := 1) dL_best_1 ?_
  refine z_aload_n (pc := 2) dL_best_2 rfl (by first | rfl | exact z_isr_rf _) ?_
  refine z_iload_n (pc := 3) dL_best_3 rfl ?_
  refine z_callV (pc := 4) (mX5_best (A := A) x) dL_best_4 cwL_19 okX5_best rfl hC.k0 rfl rfl (by omega) rfl (Nat.le_of_ble_eq_true rfl) (by omega) (by omega) (fun E wN hN => ?_) (fun v wN hN => ?_)
  · obtain ⟨rfl, rfl, hP⟩ := hN
    refine z_Xat (x := ⟨0, 9, 12, 13⟩) (pre := []) (suf := []) z_cIAE rfl (fun _ h => absurd h List.not_mem_nil) (by decide) (by decide) z_cl13 (fun q => ?_)
    show z_E _ zL_best _ _ 12 _ _ _ _ _
    refine z_astore3 (pc := 12) dL_best_12 (by first | rfl | exact z_isr_rf _) ?_
    refine z_iconst_1 (pc := 13) dL_best_13 ?_
    refine z_iret (pc := 14) dL_best_14 rfl (⟨1, 0, A, I, N, O, B, vo, rfl, ⟨⟨rfl, rfl, rfl, rfl⟩, Or.inr ⟨hP, rfl⟩⟩, fun z => absurd z (by decide), rfl, h⟩)
  · obtain ⟨rfl, rfl, hP⟩ := hN
    refine z_i2l (pc := 7) dL_best_7 ?_
    refine z_last (pc := 8) dL_best_8 (h.2.2.1) (z_v01) ?_
    refine z_goto (pc := 9) (tgt := 15) dL_best_9 (by decide) ?_
    refine z_iconst_0 (pc := 15) dL_best_15 ?_
    refine z_iret (pc := 16) dL_best_16 rfl (⟨0, bst x, A, I, N, O, B, _, rfl, ⟨⟨rfl, rfl, rfl, rfl⟩, Or.inl ⟨hP, rfl, rfl⟩⟩, fun _ => z_up0 _ _, rfl, h.out _⟩)
theorem wL_score (h : z_LW G A I N O B A6 M qo qd vo vd w) (hJ : z_J I N O B M) (x : Int32) : z_MW G zL_score 8 [.ref (A 0 0 0), .int x, .ref qo] w 24 84 (z_kq G A A6 M qo qd vd (z_Qp (z_rg x (N 6 0)) (I 2 x.toNatClampNeg 0) I N O B)) z_nx := by
  have hC := h.1
  have hS := hJ.1
  have h8 : N 6 0 ≤ 8 := by rw [hS.1]; exact hS.2.2.2.1
  have h40 : N 8 0 ≤ 40 := by rw [hS.2.2.1]; exact hS.2.2.2.2.2.1
  refine z_MW.of (by decide +kernel) (by intro v hv; simp only [List.mem_cons, List.not_mem_nil, or_false] at hv; rcases hv with rfl | rfl | rfl <;> first | rfl | exact z_isr_cat (z_isr_rf _)) (Nat.le_of_ble_eq_true rfl) ?_
  show z_E _ zL_score _ _ 0 [some (.ref (A 0 0 0)), some (.int x), some (.ref qo), none] [] _ _ _
  refine z_aload_n (pc := 0) dL_score_0 rfl (by first | rfl | exact z_isr_rf _) ?_
  refine z_iconst_0 (pc := 1) dL_score_1 ?_
  refine z_aload_n (pc := 2) dL_score_2 rfl (by first | rfl | exact z_isr_rf _) ?_
  refine z_iload_n (pc := 3) dL_score_3 rfl ?_
  refine z_callV (pc := 4) (mX5_score hC hS x) dL_score_4 cwL_40 okX5_score rfl hC.k0 rfl rfl (by omega) rfl (Nat.le_of_ble_eq_true rfl) (by omega) (by omega) (fun E wN hN => ?_) (fun v wN hN => ?_)
  · obtain ⟨rfl, rfl, hP⟩ := hN
    refine z_Xat (x := ⟨0, 9, 12, 31⟩) (pre := []) (suf := []) z_cIOE rfl (fun _ h => absurd h List.not_mem_nil) (by decide) (by decide) z_cl31 (fun q => ?_)
    show z_E _ zL_score _ _ 12 _ _ _ _ _
    refine z_astore3 (pc := 12) dL_score_12 (by first | rfl | exact z_isr_rf _) ?_
    refine z_iconst_1 (pc := 13) dL_score_13 ?_
    refine z_iret (pc := 14) dL_score_14 rfl (⟨1, 0, A, I, N, O, B, vo, rfl, ⟨⟨rfl, rfl, rfl, rfl⟩, Or.inr ⟨hP, rfl⟩⟩, fun z => absurd z (by decide), rfl, h⟩)
  · obtain ⟨rfl, p, hp, rfl, rfl⟩ := hN
    refine z_i2l (pc := 7) dL_score_7 ?_
    refine z_last (pc := 8) dL_score_8 (h.2.2.1) (z_v01) ?_
    refine z_goto (pc := 9) (tgt := 15) dL_score_9 (by decide) ?_
    refine z_iconst_0 (pc := 15) dL_score_15 ?_
    refine z_iret (pc := 16) dL_score_16 rfl (⟨0, I 2 p 0, A, I, N, O, B, _, rfl, ⟨⟨rfl, rfl, rfl, rfl⟩, Or.inl ⟨⟨p, hp, rfl⟩, rfl, by rw [nI_clamp (show p < 2 ^ 31 by omega)]⟩⟩, fun _ => z_up0 _ _, rfl, h.out _⟩)
theorem wL_puzzle (h : z_LW G A I N O B A6 M qo qd vo vd w) (hJ : z_J I N O B M) (x : Int32) : z_MW G zL_puzzle 8 [.ref (A 0 0 0), .int x, .ref qo] w 24 84 (z_kq G A A6 M qo qd vd (z_Qp (z_rg x (N 8 0)) (I 9 x.toNatClampNeg 0) I N O B)) z_nx := by
  have hC := h.1
  have hS := hJ.1
  have h8 : N 6 0 ≤ 8 := by rw [hS.1]; exact hS.2.2.2.1
  have h40 : N 8 0 ≤ 40 := by rw [hS.2.2.1]; exact hS.2.2.2.2.2.1
  refine z_MW.of (by decide +kernel) (by intro v hv; simp only [List.mem_cons, List.not_mem_nil, or_false] at hv; rcases hv with rfl | rfl | rfl <;> first | rfl | exact z_isr_cat (z_isr_rf _)) (Nat.le_of_ble_eq_true rfl) ?_
  show z_E _ zL_puzzle _ _ 0 [some (.ref (A 0 0 0)), some (.int x), some (.ref qo), none] [] _ _ _
  refine z_aload_n (pc := 0) dL_puzzle_0 rfl (by first | rfl | exact z_isr_rf _) ?_
  refine z_iconst_0 (pc := 1) dL_puzzle_1 ?_
  refine z_aload_n (pc := 2) dL_puzzle_2 rfl (by first | rfl | exact z_isr_rf _) ?_
  refine z_iload_n (pc := 3) dL_puzzle_3 rfl ?_
  refine z_callV (pc := 4) (mX5_puzzle hC hS x) dL_puzzle_4 cwL_43 okX5_puzzle rfl hC.k0 rfl rfl (by omega) rfl (Nat.le_of_ble_eq_true rfl) (by omega) (by omega) (fun E wN hN => ?_) (fun v wN hN => ?_)
  · obtain ⟨rfl, rfl, hP⟩ := hN
    refine z_Xat (x := ⟨0, 9, 12, 31⟩) (pre := []) (suf := []) z_cIOE rfl (fun _ h => absurd h List.not_mem_nil) (by decide) (by decide) z_cl31 (fun q => ?_)
    show z_E _ zL_puzzle _ _ 12 _ _ _ _ _
    refine z_astore3 (pc := 12) dL_puzzle_12 (by first | rfl | exact z_isr_rf _) ?_
    refine z_iconst_1 (pc := 13) dL_puzzle_13 ?_
    refine z_iret (pc := 14) dL_puzzle_14 rfl (⟨1, 0, A, I, N, O, B, vo, rfl, ⟨⟨rfl, rfl, rfl, rfl⟩, Or.inr ⟨hP, rfl⟩⟩, fun z => absurd z (by decide), rfl, h⟩)
  · obtain ⟨rfl, p, hp, rfl, rfl⟩ := hN
    refine z_i2l (pc := 7) dL_puzzle_7 ?_
    refine z_last (pc := 8) dL_puzzle_8 (h.2.2.1) (z_v01) ?_
    refine z_goto (pc := 9) (tgt := 15) dL_puzzle_9 (by decide) ?_
    refine z_iconst_0 (pc := 15) dL_puzzle_15 ?_
    refine z_iret (pc := 16) dL_puzzle_16 rfl (⟨0, I 9 p 0, A, I, N, O, B, _, rfl, ⟨⟨rfl, rfl, rfl, rfl⟩, Or.inl ⟨⟨p, hp, rfl⟩, rfl, by rw [nI_clamp (show p < 2 ^ 31 by omega)]⟩⟩, fun _ => z_up0 _ _, rfl, h.out _⟩)
theorem wL_source (h : z_LW G A I N O B A6 M qo qd vo vd w) (hJ : z_J I N O B M) (x : Int32) : z_MW G zL_source 8 [.ref (A 0 0 0), .int x, .ref qo] w 24 84 (z_kq G A A6 M qo qd vd (z_Qp (z_rg x (N 8 0)) (I 10 x.toNatClampNeg 0) I N O B)) z_nx := by
  have hC := h.1
  have hS := hJ.1
  have h8 : N 6 0 ≤ 8 := by rw [hS.1]; exact hS.2.2.2.1
  have h40 : N 8 0 ≤ 40 := by rw [hS.2.2.1]; exact hS.2.2.2.2.2.1
  refine z_MW.of (by decide +kernel) (by intro v hv; simp only [List.mem_cons, List.not_mem_nil, or_false] at hv; rcases hv with rfl | rfl | rfl <;> first | rfl | exact z_isr_cat (z_isr_rf _)) (Nat.le_of_ble_eq_true rfl) ?_
  show z_E _ zL_source _ _ 0 [some (.ref (A 0 0 0)), some (.int x), some (.ref qo), none] [] _ _ _
  refine z_aload_n (pc := 0) dL_source_0 rfl (by first | rfl | exact z_isr_rf _) ?_
  refine z_iconst_0 (pc := 1) dL_source_1 ?_
  refine z_aload_n (pc := 2) dL_source_2 rfl (by first | rfl | exact z_isr_rf _) ?_
  refine z_iload_n (pc := 3) dL_source_3 rfl ?_
  refine z_callV (pc := 4) (mX5_source hC hS x) dL_source_4 cwL_46 okX5_source rfl hC.k0 rfl rfl (by omega) rfl (Nat.le_of_ble_eq_true rfl) (by omega) (by omega) (fun E wN hN => ?_) (fun v wN hN => ?_)
  · obtain ⟨rfl, rfl, hP⟩ := hN
    refine z_Xat (x := ⟨0, 9, 12, 31⟩) (pre := []) (suf := []) z_cIOE rfl (fun _ h => absurd h List.not_mem_nil) (by decide) (by decide) z_cl31 (fun q => ?_)
    show z_E _ zL_source _ _ 12 _ _ _ _ _
    refine z_astore3 (pc := 12) dL_source_12 (by first | rfl | exact z_isr_rf _) ?_
    refine z_iconst_1 (pc := 13) dL_source_13 ?_
    refine z_iret (pc := 14) dL_source_14 rfl (⟨1, 0, A, I, N, O, B, vo, rfl, ⟨⟨rfl, rfl, rfl, rfl⟩, Or.inr ⟨hP, rfl⟩⟩, fun z => absurd z (by decide), rfl, h⟩)
  · obtain ⟨rfl, p, hp, rfl, rfl⟩ := hN
    refine z_i2l (pc := 7) dL_source_7 ?_
    refine z_last (pc := 8) dL_source_8 (h.2.2.1) (z_v01) ?_
    refine z_goto (pc := 9) (tgt := 15) dL_source_9 (by decide) ?_
    refine z_iconst_0 (pc := 15) dL_source_15 ?_
    refine z_iret (pc := 16) dL_source_16 rfl (⟨0, I 10 p 0, A, I, N, O, B, _, rfl, ⟨⟨rfl, rfl, rfl, rfl⟩, Or.inl ⟨⟨p, hp, rfl⟩, rfl, by rw [nI_clamp (show p < 2 ^ 31 by omega)]⟩⟩, fun _ => z_up0 _ _, rfl, h.out _⟩)
theorem wL_offered (h : z_LW G A I N O B A6 M qo qd vo vd w) (hJ : z_J I N O B M) (x : Int32) : z_MW G zL_offered 8 [.ref (A 0 0 0), .int x, .ref qo] w 24 84 (z_kq G A A6 M qo qd vd (z_Qp (z_rg x (N 6 0)) (z_fi (z_of I x.toNatClampNeg (N 8 0) 40)) I N O B)) z_nx := by
  have hC := h.1
  have hS := hJ.1
  have h8 : N 6 0 ≤ 8 := by rw [hS.1]; exact hS.2.2.2.1
  have h40 : N 8 0 ≤ 40 := by rw [hS.2.2.1]; exact hS.2.2.2.2.2.1
  refine z_MW.of (by decide +kernel) (by intro v hv; simp only [List.mem_cons, List.not_mem_nil, or_false] at hv; rcases hv with rfl | rfl | rfl <;> first | rfl | exact z_isr_cat (z_isr_rf _)) (Nat.le_of_ble_eq_true rfl) ?_
  show z_E _ zL_offered _ _ 0 [some (.ref (A 0 0 0)), some (.int x), some (.ref qo), none] [] _ _ _
  refine z_aload_n (pc := 0) dL_offered_0 rfl (by first | rfl | exact z_isr_rf _) ?_
  refine z_iconst_0 (pc := 1) dL_offered_1 ?_
  refine z_aload_n (pc := 2) dL_offered_2 rfl (by first | rfl | exact z_isr_rf _) ?_
  refine z_iload_n (pc := 3) dL_offered_3 rfl ?_
  refine z_callV (pc := 4) (mX5_offered hC hS hJ.hT x) dL_offered_4 cwL_53 okX5_offered rfl hC.k0 rfl rfl (by omega) rfl (Nat.le_of_ble_eq_true rfl) (by omega) (by omega) (fun E wN hN => ?_) (fun v wN hN => ?_)
  · obtain ⟨rfl, rfl, hP⟩ := hN
    refine z_Xat (x := ⟨0, 9, 12, 31⟩) (pre := []) (suf := []) z_cIOE rfl (fun _ h => absurd h List.not_mem_nil) (by decide) (by decide) z_cl31 (fun q => ?_)
    show z_E _ zL_offered _ _ 12 _ _ _ _ _
    refine z_astore3 (pc := 12) dL_offered_12 (by first | rfl | exact z_isr_rf _) ?_
    refine z_iconst_1 (pc := 13) dL_offered_13 ?_
    refine z_iret (pc := 14) dL_offered_14 rfl (⟨1, 0, A, I, N, O, B, vo, rfl, ⟨⟨rfl, rfl, rfl, rfl⟩, Or.inr ⟨hP, rfl⟩⟩, fun z => absurd z (by decide), rfl, h⟩)
  · obtain ⟨rfl, p, hp, rfl, rfl⟩ := hN
    refine z_i2l (pc := 7) dL_offered_7 ?_
    refine z_last (pc := 8) dL_offered_8 (h.2.2.1) (z_v01) ?_
    refine z_goto (pc := 9) (tgt := 15) dL_offered_9 (by decide) ?_
    refine z_iconst_0 (pc := 15) dL_offered_15 ?_
    refine z_iret (pc := 16) dL_offered_16 rfl (⟨0, z_fi (z_of I p (N 8 0) 40), A, I, N, O, B, _, rfl, ⟨⟨rfl, rfl, rfl, rfl⟩, Or.inl ⟨⟨p, hp, rfl⟩, rfl, by rw [nI_clamp (show p < 2 ^ 31 by omega)]⟩⟩, fun _ => z_up0 _ _, rfl, h.out _⟩)
end WRP

