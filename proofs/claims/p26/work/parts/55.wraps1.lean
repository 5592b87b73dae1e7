/-! the law's wrappers of the class's calls, over the state (laid by a program) -/
theorem z_th_v : ∀ j, j < 1000 → nI j - nI j / 5 * 5 = nI (j % 5) := by decide +kernel
theorem z_J.hT {I : z_TI} {N : z_TN} {O : z_TO} {B : z_TB} {M : z_TM} (h : z_J I N O B M) : ∀ z, z < N 8 0 → I 9 z 0 - I 9 z 0 / 5 * 5 = nI (z_th I z) := by
  intro z hz
  have := h.1.2.2.1
  obtain ⟨j, hj, e⟩ := (h.2.2.2.2.1.2 z (by omega)).2.2
  unfold z_th
  rw [e, nI_clamp (by omega)]
  exact z_th_v j hj
theorem z_hd_al {I : z_TI} {B : z_TB} (hZ : z_Z I B) {l : Nat} : ∀ {n : Nat}, z_hd I B l n = true ↔ ¬ z_al I n l
  | 0 => ⟨fun h => (by cases h), fun h => absurd (fun k a b => absurd a (by omega)) h⟩
  | n + 1 => by
    have ih := z_hd_al hZ (l := l) (n := n)
    rw [z_hd, Bool.or_eq_true, ih, Bool.and_eq_true, decide_eq_true_eq]
    constructor
    · rintro (h | h) al
      · exact h (fun k a b => al k a (by omega))
      · exact h.2 (al (n + 1) (by omega) (Nat.le_refl _))
    · intro h
      by_cases q : z_al I n l
      · refine Or.inr ?_
        have hne : I 13 (n + 1) (l % 4 ^ (n + 1)) ≠ 0 := fun e => h (fun k a b => by
          by_cases r : k = n + 1
          · rw [r]; exact e
          · exact q k a (by omega))
        refine ⟨?_, hne⟩
        cases hB : B (n + 1) (l % 4 ^ (n + 1)) with
        | true => rfl
        | false => exact absurd (hZ _ _ hB).2.2 hne
      · exact Or.inl q
theorem z_mn_e {I : z_TI} {B : z_TB} (hZ : z_Z I B) {n l : Nat} : z_mn I n l = (if B n l = true ∧ I 11 n l ≠ 0 then FP.fdiv (FP.i2f (I 12 n l)) (FP.i2f (I 11 n l)) else FP.fconst0) := by
  unfold z_mn
  by_cases h : I 11 n l = 0
  · rw [if_pos h, if_neg (fun z => z.2 h)]
  · have hb : B n l = true := by
      cases hB : B n l with
      | true => rfl
      | false => exact absurd (hZ _ _ hB).1 h
    rw [if_neg h, if_pos ⟨hb, h⟩]
theorem z_ifB1 {I : z_TI} {B : z_TB} (hZ : z_Z I B) {n l : Nat} : (if B n l then I 11 n l else 0) = I 11 n l := by
  cases hB : B n l with
  | true => rfl
  | false => exact (hZ n l hB).1.symm
theorem z_ifB2 {I : z_TI} {B : z_TB} (hZ : z_Z I B) {n l : Nat} : (if B n l then I 12 n l else 0) = I 12 n l := by
  cases hB : B n l with
  | true => rfl
  | false => exact (hZ n l hB).2.1.symm
theorem z_pt_0 (I : z_TI) (N : z_TN) (O : z_TO) : z_pt I N O 0 0 = O 0 0 := by
  show z_pr I N 4 (z_oc O 8) 0 0 = O 0 0
  rw [z_pr_f (by decide)]
  rfl
theorem z_J.reO {I : z_TI} {N : z_TN} {O O' : z_TO} {B : z_TB} {M : z_TM} (h : z_J I N O B M) (e : O' 0 0 = O 0 0) (h1 : ∀ p q, p < N 0 0 → O' 1 p = some q → q < N 0 0) : z_J I N O' B M := by
  obtain ⟨hS, hZ, hP, hG, hZZ, hL, hB, hM⟩ := h
  have ed : z_ed N O' = z_ed N O := z_ed_c rfl e
  refine ⟨?_, hZ, hP, hG.c (fun _ _ _ => rfl) rfl rfl rfl rfl e (fun _ _ _ => rfl), hZZ, hL.c (fun _ _ _ => rfl) (Nat.le_of_eq ed.symm) (fun _ _ _ => rfl), hB, hM.c rfl rfl rfl rfl ed⟩
  obtain ⟨a1, a2, a3, a4, a5, a6, a7, a8, a9, a10, a11, a12⟩ := hS
  exact ⟨a1, a2, a3, a4, a5, a6, a7, fun g q => a8 g (by rw [← e]; exact q), h1, a10, a11, a12⟩
theorem z_K.reO {I : z_TI} {N : z_TN} {O O' : z_TO} (h : z_K I N O) (e : O' 0 0 = O 0 0) : z_K I N O' := by
  have ed : z_ed N O' = z_ed N O := z_ed_c rfl e
  refine ⟨h.1, by rw [ed]; exact h.2.1, by rw [ed]; exact h.2.2.1, h.2.2.2.c (fun _ _ _ => rfl) (fun l n => z_pg_c 60 (fun g _ => ?_)) (Nat.le_of_eq ed.symm)⟩
  rw [e]
  exact ⟨Iff.rfl, fun _ => ⟨rfl, rfl, rfl⟩⟩
/-- what an end tells besides -/
def z_endP (I : z_TI) (N : z_TN) (oc : Option Nat) (g : Nat) (x : Int32) (I' : z_TI) (N' : z_TN) (c : Int32) : Prop := c + nI (N 2 0) = nI (N' 2 0) ∧ N 2 0 ≤ N' 2 0 ∧ N' 2 0 ≤ N 2 0 + N 5 g ∧
    (∀ f, f ≠ 2 → f ≠ 8 → N' f = N f) ∧ (∀ f, f ≠ 9 → f ≠ 10 → f ≠ 11 → f ≠ 12 → f ≠ 13 → I' f = z_e2 I N g x f) ∧ (∀ n l, 1 ≤ n → n ≤ 6 → n ≤ N 5 g → l = z_px (fun i => (I 8 g i).toNatClampNeg) n → z_al I n l → I' 11 n l = I 11 n l + 1)
section MN2
variable {G : z_G} {A : z_TA} {I : z_TI} {N : z_TN} {O : z_TO} {B : z_TB} {M : z_TM} {w : z_W} {F : Nat → Prop}
theorem z_J.cs (h : z_J I N O B M) {n l : Nat} (h1 : 1 ≤ n) (h6 : n ≤ 6) (hl : l < 4 ^ n) (h11 : I 11 n l ≠ 0) : ∃ c s, c < 60 ∧ s < 121 ∧ I 11 n l = nI (c + 1) ∧ I 12 n l = nI s := by
  obtain ⟨-, -, -, -, c, s, e1, e2, e3, e4⟩ := h.2.2.2.2.2.1 n l h1 h6 hl
  have h60 := h.en.2.1
  cases c with
  | zero => exact absurd e1 h11
  | succ c => exact ⟨c, s, by omega, by omega, e1, e2⟩
theorem mX5_mean2 (hC : z_C G F A I N O B w) (hS : z_S N O B) (x y : Int32) (hfl : ∀ n l, 1 ≤ n → n ≤ 6 → l < 4 ^ n → I 11 n l ≠ 0 → vf_n32 (FP.fdiv (FP.i2f (I 12 n l)) (FP.i2f (I 11 n l)))) : z_M G zX5_mean 7 [.ref (A 0 0 0), .int x, .int y] w 1 6 (fun v w' => w = w' ∧ ∃ l n : Nat, 1 ≤ n ∧ n ≤ 6 ∧ l < 4 ^ n ∧ x = nI l ∧ y = nI n ∧ v = some (.float (if B n l = true ∧ I 11 n l ≠ 0 then FP.fdiv (FP.i2f (I 12 n l)) (FP.i2f (I 11 n l)) else FP.fconst0))) (z_cx IAE (z_ln x y) w) := by
  refine z_M.of (by decide +kernel) rfl (by intro v hv; simp only [List.mem_cons, List.not_mem_nil, or_false] at hv; rcases hv with rfl | rfl | rfl <;> first | rfl | exact z_isr_cat (z_isr_rf _)) (Nat.le_of_ble_eq_true rfl) ?_
  show z_E _ zX5_mean _ _ 0 [some (.ref (A 0 0 0)), some (.int x), some (.int y), none] [] _ _ _
  refine z_iload_n (pc := 0) dX5_mean_0 rfl ?_
  refine z_iload_n (pc := 1) dX5_mean_1 rfl ?_
  refine z_callS (pc := 2) (mX5_checkLine G w x y) dX5_mean_2 cwX5_173 okX5_checkLine rfl (by omega) rfl (Nat.le_of_ble_eq_true rfl) (by omega) (by omega) (fun E wN hN => z_Xout rfl (hN)) (fun v wN hN => ?_)
  obtain ⟨rfl, rfl, l, n, h1, h6, hl, rfl, rfl⟩ := hN
  refine z_aload_n (pc := 5) dX5_mean_5 rfl (by first | rfl | exact z_isr_rf _) ?_
  refine gfX5_30 (pc := 6) rfl dX5_mean_6 (hC.k0) rfl ?_
  refine z_iload_n (pc := 9) dX5_mean_9 rfl ?_
  refine z_iload_n (pc := 10) dX5_mean_10 rfl ?_
  refine z_callVp (pc := 11) (mX0_find hC hS hl (Nat.lt_trans hl (z_p4 n (by omega))) h6) dX5_mean_11 cwX5_177 okX0_find rfl (hC.k4) rfl rfl (by omega) rfl (Nat.le_of_ble_eq_true rfl) ?_
  by_cases hB : B n l = true
  · rw [if_pos hB]
    refine z_astore3 (pc := 14) dX5_mean_14 (by first | rfl | exact z_isr_rf _) ?_
    refine z_aload_n (pc := 15) dX5_mean_15 rfl (by first | rfl | exact z_isr_rf _) ?_
    refine z_ifnull (pc := 16) (tgt := 26) dX5_mean_16 (by decide) (by first | rfl | exact z_isr_rf _) (fun hn => by cases hn) (fun _ _ => ?_)
    refine z_aload_n (pc := 19) dX5_mean_19 rfl (by first | rfl | exact z_isr_rf _) ?_
    refine gfX5_181 (pc := 20) rfl dX5_mean_20 (hC.k12 hB) rfl ?_
    refine z_if_ne (pc := 23) (tgt := 28) dX5_mean_23 (by decide) (fun hc => ?_) (fun hc => ?_)
    · refine z_aload_n (pc := 28) dX5_mean_28 rfl (by first | rfl | exact z_isr_rf _) ?_
      refine gfX5_186 (pc := 29) rfl dX5_mean_29 (hC.k12 hB) rfl ?_
      refine z_i2f (pc := 32) dX5_mean_32 ?_
      refine z_aload_n (pc := 33) dX5_mean_33 rfl (by first | rfl | exact z_isr_rf _) ?_
      refine gfX5_181 (pc := 34) rfl dX5_mean_34 (hC.k12 hB) rfl ?_
      refine z_i2f (pc := 37) dX5_mean_37 ?_
      refine z_fdiv (pc := 38) dX5_mean_38 (hfl n l h1 h6 hl hc) ?_
      refine z_fret (pc := 39) dX5_mean_39 rfl (⟨rfl, l, n, h1, h6, hl, rfl, rfl, by rw [if_pos ⟨hB, hc⟩]⟩)
    · refine z_fconst0 (pc := 26) dX5_mean_26 ?_
      refine z_fret (pc := 27) dX5_mean_27 rfl (⟨rfl, l, n, h1, h6, hl, rfl, rfl, by rw [if_neg (fun q => q.2 hc)]⟩)
  · rw [if_neg hB]
    refine z_astore3 (pc := 14) dX5_mean_14 (by first | rfl | exact z_isr_rf _) ?_
    refine z_aload_n (pc := 15) dX5_mean_15 rfl (by first | rfl | exact z_isr_rf _) ?_
    refine z_ifnull (pc := 16) (tgt := 26) dX5_mean_16 (by decide) (by first | rfl | exact z_isr_rf _) (fun _ => ?_) (fun _ hn => by cases hn)
    refine z_fconst0 (pc := 26) dX5_mean_26 ?_
    refine z_fret (pc := 27) dX5_mean_27 rfl (⟨rfl, l, n, h1, h6, hl, rfl, rfl, by rw [if_neg (fun q => hB q.1)]⟩)
theorem z_J.hfl (h : z_J I N O B M) : ∀ n l, 1 ≤ n → n ≤ 6 → l < 4 ^ n → I 11 n l ≠ 0 → vf_n32 (FP.fdiv (FP.i2f (I 12 n l)) (FP.i2f (I 11 n l))) := fun n l h1 h6 hl h11 => by
  obtain ⟨c, s, a1, a2, a3, a4⟩ := h.cs h1 h6 hl h11
  rw [a3, a4]
  exact z_nan c a1 s a2
end MN2
/-! wrappers of the law -/
section WRP1
variable {G : z_G} {F : Nat → Prop} {a0 : Nat} {ws w : z_W} {I : z_TI} {N : z_TN} {oc : Option Nat} {B : z_TB}
theorem wL_after (hV : z_V G F a0 ws I N oc B w) (x y : Int32) : z_MW G zL_after 8 [.ref a0, .int x, .int y] w 2 12 (z_rp (.int (z_if (z_rg x 1000 ∧ z_rg y 4) (nx x y) (-1000002))) w) z_nx := by
  obtain ⟨A, O, M, rfl, rfl, hJ, hK, hC, hf⟩ := hV
  have hS := hJ.1
  have e6 := hS.1
  have e8 := hS.2.2.1
  have h8 := hS.2.2.2.1
  have h40 := hS.2.2.2.2.2.1
  refine z_MW.of (by decide +kernel) (by intro v hv; simp only [List.mem_cons, List.not_mem_nil, or_false] at hv; rcases hv with rfl | rfl | rfl <;> rfl) (Nat.le_of_ble_eq_true rfl) ?_
  show z_E _ zL_after _ _ 0 [some (.ref (A 0 0 0)), some (.int x), some (.int y), none] [] _ _ _
  refine z_aload_n (pc := 0) dL_after_0 rfl (by first | rfl | exact z_isr_rf _) ?_
  refine z_iload_n (pc := 1) dL_after_1 rfl ?_
  refine z_iload_n (pc := 2) dL_after_2 rfl ?_
  refine z_callV (pc := 3) (mX5_after (A := A) x y) dL_after_3 cwL_10 okX5_after rfl hC.k0 rfl rfl (by omega) rfl (Nat.le_of_ble_eq_true rfl) (by omega) (by omega) (fun E wN hN => ?_) (fun v wN hN => ?_)
  · obtain ⟨rfl, rfl, hP⟩ := hN
    refine z_Xat (x := ⟨0, 6, 7, 16⟩) (pre := []) (suf := []) z_cIAE rfl (fun _ h => absurd h List.not_mem_nil) (by decide) (by decide) z_cl16 (fun q => ?_)
    show z_E _ zL_after _ _ 7 _ _ _ _ _
    refine z_astore3 (pc := 7) dL_after_7 (by first | rfl | exact z_isr_rf _) ?_
    refine z_ldc (pc := 8) dL_after_8 cc18 ?_
    refine z_iret (pc := 10) dL_after_10 rfl (⟨by rw [z_if_f (fun z => hP (by first | exact z | (rw [e6]; exact z) | (rw [e8]; exact z)))], rfl⟩)
  · obtain ⟨rfl, rfl, hP⟩ := hN
    refine z_iret (pc := 6) dL_after_6 rfl (⟨by rw [z_if_t hP], rfl⟩)
theorem wL_worth (hV : z_V G F a0 ws I N oc B w) (x : Int32) : z_MW G zL_worth 8 [.ref a0, .int x] w 2 12 (z_rp (.int (z_if (z_rg x 1000) (wo x) (-1000002))) w) z_nx := by
  obtain ⟨A, O, M, rfl, rfl, hJ, hK, hC, hf⟩ := hV
  have hS := hJ.1
  have e6 := hS.1
  have e8 := hS.2.2.1
  have h8 := hS.2.2.2.1
  have h40 := hS.2.2.2.2.2.1
  refine z_MW.of (by decide +kernel) (by intro v hv; simp only [List.mem_cons, List.not_mem_nil, or_false] at hv; rcases hv with rfl | rfl <;> rfl) (Nat.le_of_ble_eq_true rfl) ?_
  show z_E _ zL_worth _ _ 0 [some (.ref (A 0 0 0)), some (.int x), none] [] _ _ _
  refine z_aload_n (pc := 0) dL_worth_0 rfl (by first | rfl | exact z_isr_rf _) ?_
  refine z_iload_n (pc := 1) dL_worth_1 rfl ?_
  refine z_callV (pc := 2) (mX5_worth (A := A) x) dL_worth_2 cwL_19 okX5_worth rfl hC.k0 rfl rfl (by omega) rfl (Nat.le_of_ble_eq_true rfl) (by omega) (by omega) (fun E wN hN => ?_) (fun v wN hN => ?_)
  · obtain ⟨rfl, rfl, hP⟩ := hN
    refine z_Xat (x := ⟨0, 5, 6, 16⟩) (pre := []) (suf := []) z_cIAE rfl (fun _ h => absurd h List.not_mem_nil) (by decide) (by decide) z_cl16 (fun q => ?_)
    show z_E _ zL_worth _ _ 6 _ _ _ _ _
    refine z_astore2 (pc := 6) dL_worth_6 (by first | rfl | exact z_isr_rf _) ?_
    refine z_ldc (pc := 7) dL_worth_7 cc18 ?_
    refine z_iret (pc := 9) dL_worth_9 rfl (⟨by rw [z_if_f (fun z => hP (by first | exact z | (rw [e6]; exact z) | (rw [e8]; exact z)))], rfl⟩)
  · obtain ⟨rfl, rfl, hP⟩ := hN
    refine z_iret (pc := 5) dL_worth_5 rfl (⟨by rw [z_if_t hP], rfl⟩)
theorem wL_best (hV : z_V G F a0 ws I N oc B w) (x : Int32) : z_MW G zL_best 8 [.ref a0, .int x] w 2 12 (z_rp (.int (z_if (z_rg x 1000) (bst x) (-1000002))) w) z_nx := by
  obtain ⟨A, O, M, rfl, rfl, hJ, hK, hC, hf⟩ := hV
  have hS := hJ.1
  have e6 := hS.1
  have e8 := hS.2.2.1
  have h8 := hS.2.2.2.1
  have h40 := hS.2.2.2.2.2.1
  refine z_MW.of (by decide +kernel) (by intro v hv; simp only [List.mem_cons, List.not_mem_nil, or_false] at hv; rcases hv with rfl | rfl <;> rfl) (Nat.le_of_ble_eq_true rfl) ?_
  show z_E _ zL_best _ _ 0 [some (.ref (A 0 0 0)), some (.int x), none] [] _ _ _
  refine z_aload_n (pc := 0) dL_best_0 rfl (by first | rfl | exact z_isr_rf _) ?_
  refine z_iload_n (pc := 1) dL_best_1 rfl ?_
  refine z_callV (pc := 2) (mX5_best (A := A) x) dL_best_2 cwL_23 okX5_best rfl hC.k0 rfl rfl (by omega) rfl (Nat.le_of_ble_eq_true rfl) (by omega) (by omega) (fun E wN hN => ?_) (fun v wN hN => ?_)
  · obtain ⟨rfl, rfl, hP⟩ := hN
    refine z_Xat (x := ⟨0, 5, 6, 16⟩) (pre := []) (suf := []) z_cIAE rfl (fun _ h => absurd h List.not_mem_nil) (by decide) (by decide) z_cl16 (fun q => ?_)
    show z_E _ zL_best _ _ 6 _ _ _ _ _
    refine z_astore2 (pc := 6) dL_best_6 (by first | rfl | exact z_isr_rf _) ?_
    refine z_ldc (pc := 7) dL_best_7 cc18 ?_
    refine z_iret (pc := 9) dL_best_9 rfl (⟨by rw [z_if_f (fun z => hP (by first | exact z | (rw [e6]; exact z) | (rw [e8]; exact z)))], rfl⟩)
  · obtain ⟨rfl, rfl, hP⟩ := hN
    refine z_iret (pc := 5) dL_best_5 rfl (⟨by rw [z_if_t hP], rfl⟩)
theorem wL_score (hV : z_V G F a0 ws I N oc B w) (x : Int32) : z_MW G zL_score 8 [.ref a0, .int x] w 1 6 (z_rp (.int (z_if (z_rg x (N 0 0)) (I 2 x.toNatClampNeg 0) (-1000001))) w) z_nx := by
  obtain ⟨A, O, M, rfl, rfl, hJ, hK, hC, hf⟩ := hV
  have hS := hJ.1
  have e6 := hS.1
  have e8 := hS.2.2.1
  have h8 := hS.2.2.2.1
  have h40 := hS.2.2.2.2.2.1
  refine z_MW.of (by decide +kernel) (by intro v hv; simp only [List.mem_cons, List.not_mem_nil, or_false] at hv; rcases hv with rfl | rfl <;> rfl) (Nat.le_of_ble_eq_true rfl) ?_
  show z_E _ zL_score _ _ 0 [some (.ref (A 0 0 0)), some (.int x), none] [] _ _ _
  refine z_aload_n (pc := 0) dL_score_0 rfl (by first | rfl | exact z_isr_rf _) ?_
  refine z_iload_n (pc := 1) dL_score_1 rfl ?_
  refine z_callV (pc := 2) (mX5_score hC hS x) dL_score_2 cwL_46 okX5_score rfl hC.k0 rfl rfl (by omega) rfl (Nat.le_of_ble_eq_true rfl) (by omega) (by omega) (fun E wN hN => ?_) (fun v wN hN => ?_)
  · obtain ⟨rfl, rfl, hP⟩ := hN
    refine z_Xat (x := ⟨0, 5, 6, 36⟩) (pre := []) (suf := []) z_cIOE rfl (fun _ h => absurd h List.not_mem_nil) (by decide) (by decide) z_cl36 (fun q => ?_)
    show z_E _ zL_score _ _ 6 _ _ _ _ _
    refine z_astore2 (pc := 6) dL_score_6 (by first | rfl | exact z_isr_rf _) ?_
    refine z_ldc (pc := 7) dL_score_7 cc38 ?_
    refine z_iret (pc := 9) dL_score_9 rfl (⟨by rw [z_if_f (fun z => hP (by rw [e6]; exact z))], rfl⟩)
  · obtain ⟨rfl, p, hp, rfl, rfl⟩ := hN
    refine z_iret (pc := 5) dL_score_5 rfl (⟨by rw [z_if_t ⟨p, by omega, rfl⟩, nI_clamp (show p < 2 ^ 31 by omega)], rfl⟩)
theorem wL_puzzle (hV : z_V G F a0 ws I N oc B w) (x : Int32) : z_MW G zL_puzzle 8 [.ref a0, .int x] w 1 6 (z_rp (.int (z_if (z_rg x (N 2 0)) (I 9 x.toNatClampNeg 0) (-1000001))) w) z_nx := by
  obtain ⟨A, O, M, rfl, rfl, hJ, hK, hC, hf⟩ := hV
  have hS := hJ.1
  have e6 := hS.1
  have e8 := hS.2.2.1
  have h8 := hS.2.2.2.1
  have h40 := hS.2.2.2.2.2.1
  refine z_MW.of (by decide +kernel) (by intro v hv; simp only [List.mem_cons, List.not_mem_nil, or_false] at hv; rcases hv with rfl | rfl <;> rfl) (Nat.le_of_ble_eq_true rfl) ?_
  show z_E _ zL_puzzle _ _ 0 [some (.ref (A 0 0 0)), some (.int x), none] [] _ _ _
  refine z_aload_n (pc := 0) dL_puzzle_0 rfl (by first | rfl | exact z_isr_rf _) ?_
  refine z_iload_n (pc := 1) dL_puzzle_1 rfl ?_
  refine z_callV (pc := 2) (mX5_puzzle hC hS x) dL_puzzle_2 cwL_49 okX5_puzzle rfl hC.k0 rfl rfl (by omega) rfl (Nat.le_of_ble_eq_true rfl) (by omega) (by omega) (fun E wN hN => ?_) (fun v wN hN => ?_)
  · obtain ⟨rfl, rfl, hP⟩ := hN
    refine z_Xat (x := ⟨0, 5, 6, 36⟩) (pre := []) (suf := []) z_cIOE rfl (fun _ h => absurd h List.not_mem_nil) (by decide) (by decide) z_cl36 (fun q => ?_)
    show z_E _ zL_puzzle _ _ 6 _ _ _ _ _
    refine z_astore2 (pc := 6) dL_puzzle_6 (by first | rfl | exact z_isr_rf _) ?_
    refine z_ldc (pc := 7) dL_puzzle_7 cc38 ?_
    refine z_iret (pc := 9) dL_puzzle_9 rfl (⟨by rw [z_if_f (fun z => hP (by rw [e8]; exact z))], rfl⟩)
  · obtain ⟨rfl, p, hp, rfl, rfl⟩ := hN
    refine z_iret (pc := 5) dL_puzzle_5 rfl (⟨by rw [z_if_t ⟨p, by omega, rfl⟩, nI_clamp (show p < 2 ^ 31 by omega)], rfl⟩)
theorem wL_source (hV : z_V G F a0 ws I N oc B w) (x : Int32) : z_MW G zL_source 8 [.ref a0, .int x] w 1 6 (z_rp (.int (z_if (z_rg x (N 2 0)) (I 10 x.toNatClampNeg 0) (-1000001))) w) z_nx := by
  obtain ⟨A, O, M, rfl, rfl, hJ, hK, hC, hf⟩ := hV
  have hS := hJ.1
  have e6 := hS.1
  have e8 := hS.2.2.1
  have h8 := hS.2.2.2.1
  have h40 := hS.2.2.2.2.2.1
  refine z_MW.of (by decide +kernel) (by intro v hv; simp only [List.mem_cons, List.not_mem_nil, or_false] at hv; rcases hv with rfl | rfl <;> rfl) (Nat.le_of_ble_eq_true rfl) ?_
  show z_E _ zL_source _ _ 0 [some (.ref (A 0 0 0)), some (.int x), none] [] _ _ _
  refine z_aload_n (pc := 0) dL_source_0 rfl (by first | rfl | exact z_isr_rf _) ?_
  refine z_iload_n (pc := 1) dL_source_1 rfl ?_
  refine z_callV (pc := 2) (mX5_source hC hS x) dL_source_2 cwL_52 okX5_source rfl hC.k0 rfl rfl (by omega) rfl (Nat.le_of_ble_eq_true rfl) (by omega) (by omega) (fun E wN hN => ?_) (fun v wN hN => ?_)
  · obtain ⟨rfl, rfl, hP⟩ := hN
    refine z_Xat (x := ⟨0, 5, 6, 36⟩) (pre := []) (suf := []) z_cIOE rfl (fun _ h => absurd h List.not_mem_nil) (by decide) (by decide) z_cl36 (fun q => ?_)
    show z_E _ zL_source _ _ 6 _ _ _ _ _
    refine z_astore2 (pc := 6) dL_source_6 (by first | rfl | exact z_isr_rf _) ?_
    refine z_ldc (pc := 7) dL_source_7 cc38 ?_
    refine z_iret (pc := 9) dL_source_9 rfl (⟨by rw [z_if_f (fun z => hP (by rw [e8]; exact z))], rfl⟩)
  · obtain ⟨rfl, p, hp, rfl, rfl⟩ := hN
    refine z_iret (pc := 5) dL_source_5 rfl (⟨by rw [z_if_t ⟨p, by omega, rfl⟩, nI_clamp (show p < 2 ^ 31 by omega)], rfl⟩)
theorem wL_offered (hV : z_V G F a0 ws I N oc B w) (x : Int32) : z_MW G zL_offered 8 [.ref a0, .int x] w 1 6 (z_rp (.int (z_if (z_rg x (N 0 0)) (z_fi (z_of I x.toNatClampNeg (N 8 0) 40)) (-1000001))) w) z_nx := by
  obtain ⟨A, O, M, rfl, rfl, hJ, hK, hC, hf⟩ := hV
  have hS := hJ.1
  have e6 := hS.1
  have e8 := hS.2.2.1
  have h8 := hS.2.2.2.1
  have h40 := hS.2.2.2.2.2.1
  have hT := hJ.hT
  refine z_MW.of (by decide +kernel) (by intro v hv; simp only [List.mem_cons, List.not_mem_nil, or_false] at hv; rcases hv with rfl | rfl <;> rfl) (Nat.le_of_ble_eq_true rfl) ?_
  show z_E _ zL_offered _ _ 0 [some (.ref (A 0 0 0)), some (.int x), none] [] _ _ _
  refine z_aload_n (pc := 0) dL_offered_0 rfl (by first | rfl | exact z_isr_rf _) ?_
  refine z_iload_n (pc := 1) dL_offered_1 rfl ?_
  refine z_callV (pc := 2) (mX5_offered hC hS hT x) dL_offered_2 cwL_59 okX5_offered rfl hC.k0 rfl rfl (by omega) rfl (Nat.le_of_ble_eq_true rfl) (by omega) (by omega) (fun E wN hN => ?_) (fun v wN hN => ?_)
  · obtain ⟨rfl, rfl, hP⟩ := hN
    refine z_Xat (x := ⟨0, 5, 6, 36⟩) (pre := []) (suf := []) z_cIOE rfl (fun _ h => absurd h List.not_mem_nil) (by decide) (by decide) z_cl36 (fun q => ?_)
    show z_E _ zL_offered _ _ 6 _ _ _ _ _
    refine z_astore2 (pc := 6) dL_offered_6 (by first | rfl | exact z_isr_rf _) ?_
    refine z_ldc (pc := 7) dL_offered_7 cc38 ?_
    refine z_iret (pc := 9) dL_offered_9 rfl (⟨by rw [z_if_f (fun z => hP (by rw [e6]; exact z))], rfl⟩)
  · obtain ⟨rfl, p, hp, rfl, rfl⟩ := hN
    refine z_iret (pc := 5) dL_offered_5 rfl (⟨by rw [z_if_t ⟨p, by omega, rfl⟩, nI_clamp (show p < 2 ^ 31 by omega)], rfl⟩)
end WRP1

