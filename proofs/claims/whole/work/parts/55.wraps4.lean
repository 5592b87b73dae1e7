/-! the mean, its wrapper -/
theorem z_num : ∀ c, c < 60 → ∀ s, s < 121 → vf_n64 (FP.f2d (FP.fdiv (FP.i2f (nI s)) (FP.i2f (nI (c + 1))))) ∧ Op.cmpValue (FP.dcmp (FP.f2d (FP.fdiv (FP.i2f (nI s)) (FP.i2f (nI (c + 1))))) (FP.f2d (FP.fdiv (FP.i2f (nI s)) (FP.i2f (nI (c + 1)))))) .l = 0 := by unfold vf_n64; decide +kernel
theorem z_num0 : vf_n64 (FP.f2d FP.fconst0) ∧ Op.cmpValue (FP.dcmp (FP.f2d FP.fconst0) (FP.f2d FP.fconst0)) .l = 0 := by unfold vf_n64; decide +kernel
section WRP4
variable {G : z_G} {A : z_TA} {I : z_TI} {N : z_TN} {O : z_TO} {B : z_TB} {A6 : z_TA} {M : z_TM} {qo qd : Nat} {vo : Nat → Int64} {vd : Nat → UInt64} {w : z_W} {F : Nat → Prop}
theorem z_J.cs (h : z_J I N O B M) {n l : Nat} (h1 : 1 ≤ n) (h6 : n ≤ 6) (hl : l < 4 ^ n) (h11 : I 11 n l ≠ 0) : ∃ c s, c < 60 ∧ s < 121 ∧ I 11 n l = nI (c + 1) ∧ I 12 n l = nI s := by
  obtain ⟨-, -, -, -, c, s, e1, e2, e3, e4⟩ := h.2.2.2.2.2.1 n l h1 h6 hl
  have h60 := h.en.2.1
  cases c with
  | zero => exact absurd e1 h11
  | succ c => exact ⟨c, s, by omega, by omega, e1, e2⟩
theorem z_J.num (h : z_J I N O B M) {x y k : Int32} {r : UInt32} (hq : z_Qf x y I N O B k r) (hk : k = 0) : vf_n64 (FP.f2d r) ∧ Op.cmpValue (FP.dcmp (FP.f2d r) (FP.f2d r)) .l = 0 := by
  rcases hq with ⟨⟨l, n, h1, h6, hl, rfl, rfl⟩, -, rfl⟩ | ⟨-, e⟩
  · have hp4 := z_p4 n (by omega)
    rw [nI_clamp (show l < 2 ^ 31 by omega), nI_clamp (show n < 2 ^ 31 by omega)]
    by_cases c : B n l = true ∧ I 11 n l ≠ 0
    · rw [if_pos c]
      obtain ⟨c', s, a1, a2, a3, a4⟩ := h.cs h1 h6 hl c.2
      rw [a3, a4]
      exact z_num c' a1 s a2
    · rw [if_neg c]
      exact z_num0
  · rw [e] at hk
    exact absurd hk (by decide)
theorem mX5_mean2 (hC : z_C G F A I N O B w) (hS : z_S N O B) (x y : Int32) (hfl : ∀ n l, 1 ≤ n → n ≤ 6 → l < 4 ^ n → I 11 n l ≠ 0 → vf_n32 (FP.fdiv (FP.i2f (I 12 n l)) (FP.i2f (I 11 n l)))) : z_M G zX5_mean 7 [.ref (A 0 0 0), .int x, .int y] w 1 6 (fun v w' => w = w' ∧ ∃ l n : Nat, 1 ≤ n ∧ n ≤ 6 ∧ l < 4 ^ n ∧ x = nI l ∧ y = nI n ∧ v = some (.float (if B n l = true ∧ I 11 n l ≠ 0 then FP.fdiv (FP.i2f (I 12 n l)) (FP.i2f (I 11 n l)) else FP.fconst0))) (z_cx IAE (z_ln x y) w) := by
  refine z_M.of (by decide +kernel) rfl (by intro v hv; simp only [List.mem_cons, List.not_mem_nil, or_false] at hv; rcases hv with rfl | rfl | rfl <;> first | rfl | exact z_isr_cat (z_isr_rf _)) (Nat.le_of_ble_eq_true rfl) ?_
  show z_E _ zX5_mean _ _ 0 [some (.ref (A 0 0 0)), some (.int x), some (.int y), none] [] _ _ _
  refine z_iload_n (pc := 0) dX5_mean_0 rfl ?_
  refine z_iload_n (pc := 1) dX5_mean_1 rfl ?_
  refine z_callS (pc := 2) (mX5_checkLine G w x y) dX5_mean_2 cwX5_173 okX5_checkLine rfl (by omega) rfl (Nat.le_of_ble_eq_true rfl) (by omega) (by omega) (fun E wN hN => z_Xout rfl (hN)) (fun v wN hN => ?_)
  obtain ⟨rfl, rfl, l, n, h1, h6, hl, rfl, rfl⟩ := hN
  refine z_aload_n (pc := 5) dX5_mean_5 rfl (by first | rfl | exact z_isr_rf _) ?_
  refine gfX5_30 (pc := 6) rfl dX5_mean_6 (hC.k0) rfl ?_
  refine z_iload_n (pc := 9) dX5_mean_9 rfl ?_
  refine z_iload_n (pc := 10) dX5_mean_10 rfl ?_
  refine z_callVp (pc := 11) (mX0_find hC hS hl (Nat.lt_trans hl (z_p4 n (by omega))) h6) dX5_mean_11 cwX5_177 okX0_find rfl (hC.k4) rfl rfl (by omega) rfl (Nat.le_of_ble_eq_true rfl) ?_
  by_cases hB : B n l = true
  · rw [if_pos hB]
    refine z_astore3 (pc := 14) dX5_mean_14 (by first | rfl | exact z_isr_rf _) ?_
    refine z_aload_n (pc := 15) dX5_mean_15 rfl (by first | rfl | exact z_isr_rf _) ?_
    refine z_ifnull (pc := 16) (tgt := 26) dX5_mean_16 (by decide) (by first | rfl | exact z_isr_rf _) (fun hn => by cases hn) (fun _ _ => ?_)
    refine z_aload_n (pc := 19) dX5_mean_19 rfl (by first | rfl | exact z_isr_rf _) ?_
    refine gfX5_181 (pc := 20) rfl dX5_mean_20 (hC.k12 hB) rfl ?_
    refine z_if_ne (pc := 23) (tgt := 28) dX5_mean_23 (by decide) (fun hc => ?_) (fun hc => ?_)
    · refine z_aload_n (pc := 28) dX5_mean_28 rfl (by first | rfl | exact z_isr_rf _) ?_
      refine gfX5_186 (pc := 29) rfl dX5_mean_29 (hC.k12 hB) rfl ?_
      refine z_i2f (pc := 32) dX5_mean_32 ?_
      refine z_aload_n (pc := 33) dX5_mean_33 rfl (by first | rfl | exact z_isr_rf _) ?_
      refine gfX5_181 (pc := 34) rfl dX5_mean_34 (hC.k12 hB) rfl ?_
      refine z_i2f (pc := 37) dX5_mean_37 ?_
      refine z_fdiv (pc := 38) dX5_mean_38 (hfl n l h1 h6 hl hc) ?_
      refine z_fret (pc := 39) dX5_mean_39 rfl (⟨rfl, l, n, h1, h6, hl, rfl, rfl, by rw [if_pos ⟨hB, hc⟩]⟩)
    · refine z_fconst0 (pc := 26) dX5_mean_26 ?_
      refine z_fret (pc := 27) dX5_mean_27 rfl (⟨rfl, l, n, h1, h6, hl, rfl, rfl, by rw [if_neg (fun q => q.2 hc)]⟩)
  · rw [if_neg hB]
    refine z_astore3 (pc := 14) dX5_mean_14 (by first | rfl | exact z_isr_rf _) ?_
    refine z_aload_n (pc := 15) dX5_mean_15 rfl (by first | rfl | exact z_isr_rf _) ?_
    refine z_ifnull (pc := 16) (tgt := 26) dX5_mean_16 (by decide) (by first | rfl | exact z_isr_rf _) (fun _ => ?_) (fun _ hn => by cases hn)
    refine z_fconst0 (pc := 26) dX5_mean_26 ?_
    refine z_fret (pc := 27) dX5_mean_27 rfl (⟨rfl, l, n, h1, h6, hl, rfl, rfl, by rw [if_neg (fun q => hB q.1)]⟩)
theorem z_J.hfl (h : z_J I N O B M) : ∀ n l, 1 ≤ n → n ≤ 6 → l < 4 ^ n → I 11 n l ≠ 0 → vf_n32 (FP.fdiv (FP.i2f (I 12 n l)) (FP.i2f (I 11 n l))) := fun n l h1 h6 hl h11 => by
  obtain ⟨c, s, a1, a2, a3, a4⟩ := h.cs h1 h6 hl h11
  rw [a3, a4]
  exact z_nan c a1 s a2
theorem wL_mean (h : z_LW G A I N O B A6 M qo qd vo vd w) (hJ : z_J I N O B M) (x y : Int32) : z_MW G zL_mean 8 [.ref (A 0 0 0), .int x, .int y, .ref qd] w 24 84 (fun v w' => ∃ k r vd', v = some (.int k) ∧ z_Qf x y I N O B k r ∧ (k = 0 → vd' 0 = FP.f2d r) ∧ z_LW G A I N O B A6 M qo qd vo vd' w') z_nx := by
  have hC := h.1
  have hS := hJ.1
  refine z_MW.of (by decide +kernel) (by intro v hv; simp only [List.mem_cons, List.not_mem_nil, or_false] at hv; rcases hv with rfl | rfl | rfl | rfl <;> first | rfl | exact z_isr_cat (z_isr_rf _)) (Nat.le_of_ble_eq_true rfl) ?_
  show z_E _ zL_mean _ _ 0 [some (.ref (A 0 0 0)), some (.int x), some (.int y), some (.ref qd), none] [] _ _ _
  refine z_aload_n (pc := 0) dL_mean_0 rfl (by first | rfl | exact z_isr_rf _) ?_
  refine z_iconst_0 (pc := 1) dL_mean_1 ?_
  refine z_aload_n (pc := 2) dL_mean_2 rfl (by first | rfl | exact z_isr_rf _) ?_
  refine z_iload_n (pc := 3) dL_mean_3 rfl ?_
  refine z_iload_n (pc := 4) dL_mean_4 rfl ?_
  refine z_callV (pc := 5) (mX5_mean2 hC hS x y hJ.hfl) dL_mean_5 cwL_72 okX5_mean rfl hC.k0 rfl rfl (by omega) rfl (Nat.le_of_ble_eq_true rfl) (by omega) (by omega) (fun E wN hN => ?_) (fun v wN hN => ?_)
  · obtain ⟨rfl, rfl, hP⟩ := hN
    refine z_Xat (x := ⟨0, 10, 13, 13⟩) (pre := []) (suf := []) z_cIAE rfl (fun _ h => absurd h List.not_mem_nil) (by decide) (by decide) z_cl13 (fun q => ?_)
    show z_E _ zL_mean _ _ 13 _ _ _ _ _
    refine z_astore4 (pc := 13) dL_mean_13 (by first | rfl | exact z_isr_rf _) ?_
    refine z_iconst_1 (pc := 15) dL_mean_15 ?_
    refine z_iret (pc := 16) dL_mean_16 rfl (⟨1, 0, vd, rfl, Or.inr ⟨hP, rfl⟩, fun z => absurd z (by decide), h⟩)
  · obtain ⟨rfl, l, n, h1, h6, hl, rfl, rfl, rfl⟩ := hN
    have hp4 := z_p4 n (by omega)
    have hq : z_Qf (nI l) (nI n) I N O B 0 (if B n l = true ∧ I 11 n l ≠ 0 then FP.fdiv (FP.i2f (I 12 n l)) (FP.i2f (I 11 n l)) else FP.fconst0) := Or.inl ⟨⟨l, n, h1, h6, hl, rfl, rfl⟩, rfl, by rw [nI_clamp (show l < 2 ^ 31 by omega), nI_clamp (show n < 2 ^ 31 by omega)]⟩
    refine z_f2d (pc := 8) dL_mean_8 ((hJ.num hq rfl).1) ?_
    refine z_dast (pc := 9) dL_mean_9 (h.2.2.2.1) (z_v01) ?_
    refine z_goto (pc := 10) (tgt := 17) dL_mean_10 (by decide) ?_
    refine z_iconst_0 (pc := 17) dL_mean_17 ?_
    refine z_iret (pc := 18) dL_mean_18 rfl (⟨0, _, _, rfl, hq, fun _ => rfl, h.outD _⟩)
end WRP4

