/-! an entry -/
theorem z_LI.cg {I : z_TI} {N : z_TN} {oc : Option Nat} {fp fw fg fg' : Nat → Int32} (h : z_LI I N oc fp fw fg) (e : ∀ i, i < 7 → fg' i = fg i) : z_LI I N oc fp fw fg' := by
  unfold z_LI
  rw [e 0 (by decide), e 1 (by decide), e 2 (by decide), e 3 (by decide), e 4 (by decide), e 5 (by decide), e 6 (by decide)]
  exact h
theorem z_LI.enter {I : z_TI} {N : z_TN} {oc : Option Nat} {fp fw fg : Nat → Int32} (h : z_LI I N oc fp fw fg) (h8 : N 0 0 < 8) : z_LI (z_IP I (N 0 0)) (z_NP N) oc fp fw (upd fg 0 (nI (N 0 0 + 1))) := by
  obtain ⟨⟨T, t1, t2, t3⟩, ⟨hw1, hw2⟩, h1, g0, g1, g2, g3⟩ := h
  have e0 : z_NP N 0 0 = N 0 0 + 1 := by simp [z_NP, z_sN]
  have eo : ∀ f, f ≠ 0 → f ≠ 6 → z_NP N f = N f := fun f a b => by
    unfold z_NP; rw [z_sN_f _ _ _ a, z_sN_f _ _ _ b]
  have u : ∀ i, i ≠ 0 → upd fg 0 (nI (N 0 0 + 1)) i = fg i := fun i hi => z_upd_n _ _ hi
  have e5 := eo 5 (by decide) (by decide)
  have emv : ∀ g, z_mvs (z_IP I (N 0 0)) g = z_mvs I g := fun g => by unfold z_mvs; rw [z_IP_f I _ (by decide)]
  have ekn : ∀ g, z_kn (z_NP N) g = z_kn N g := fun g => by unfold z_kn; rw [e5]
  have eed : z_edo (z_NP N) oc = z_edo N oc := by unfold z_edo; rw [eo 1 (by decide) (by decide)]
  refine ⟨⟨T, t1, fun i a b => t2 i (by omega) b, fun p hp z hz => ?_⟩, ⟨fun p hp => ?_, fun p hp hp8 => hw2 p (by omega) hp8⟩, by omega, by rw [e0, z_upd_s], by rw [u 1 (by decide), eed]; exact g1, by rw [u 2 (by decide)]; exact g2, fun g hg => ?_⟩
  · rw [e0] at hp
    by_cases q : p = N 0 0
    · rw [q, t2 _ (by omega) (by omega)]
      have : z_IP I (N 0 0) 4 (N 0 0) z = 0 := by simp [z_IP, z_sF]
      rw [this]
      simp
    · rw [z_IP_i q]
      exact t3 p (by omega) z hz
  · rw [e0] at hp
    by_cases q : p = N 0 0
    · rw [q, hw2 _ (Nat.le_refl _) (by omega)]
      simp [z_IP, z_sF]
    · rw [z_IP_i q, z_IP_i q]
      exact hw1 p (by omega)
  · rw [u 3 (by decide), u 4 (by decide), u 5 (by decide), u 6 (by decide), e5, eo 3 (by decide) (by decide), eo 4 (by decide) (by decide), emv, ekn]
    exact g3 g hg
section LF
variable {G : z_G} {F : Nat → Prop} {a0 ap aw ag : Nat} {ws w : z_W} {I : z_TI} {N : z_TN} {oc : Option Nat} {B : z_TB}
theorem iL_actE (hF : F ap ∧ F aw ∧ F ag) (hne : ap ≠ aw ∧ ap ≠ ag ∧ aw ≠ ag) {fp fw fg : Nat → Int32} (hV : z_V G F a0 ws I N oc B w) (hwp : ws ap = some (.inl (G.2.1 0, 16, .inl fp))) (hww : ws aw = some (.inl (G.2.1 0, 8, .inl fw))) (hwg : ws ag = some (.inl (G.2.1 0, 7, .inl fg))) (hLI : z_LI I N oc fp fw fg) {x1 x2 x4 x5 x6 x7 x8 x9 x10 x11 x12 x13 x14 x15 : Option Value} : z_E G zL_acts 10 (z_aq G F a0 ap aw ag) 21 [some (.ref a0), x1, x2, some (.ref ag), x4, x5, x6, x7, x8, x9, x10, x11, x12, x13, x14, x15] [] w 7 85 := by
  have hn := hV.n
  have hLI2 := hLI
  obtain ⟨-, -, h1, g0, -⟩ := hLI2
  have hg := (hV.at hF.2.2).trans hwg
  have e0 : z_NP N 0 0 = N 0 0 + 1 := by simp [z_NP, z_sN]
  refine z_aload_n (pc := 21) dL_acts_21 rfl (by first | rfl | exact z_isr_rf _) ?_
  refine z_iconst_0 (pc := 22) dL_acts_22 ?_
  refine z_iald (pc := 23) dL_acts_23 (hg) (z_v0) ?_
  refine z_bipush_8 (pc := 24) dL_acts_24 ?_
  rw [z_c0, g0]
  by_cases h8 : N 0 0 < 8
  · refine z_icmp_ge (pc := 26) (tgt := 35) dL_acts_26 (by decide) (fun hn => absurd hn (fun z => absurd ((nI_leI (a := 8) (by omega) (by omega)).1 z) (by omega))) (fun _ => ?_)
    refine z_aload_n (pc := 29) dL_acts_29 rfl (by first | rfl | exact z_isr_rf _) ?_
    refine z_iconst_0 (pc := 30) dL_acts_30 ?_
    refine z_iald (pc := 31) dL_acts_31 (hg) (z_v0) ?_
    refine z_goto (pc := 32) (tgt := 37) dL_acts_32 (by decide) ?_
    rw [z_c0, g0]
    refine z_istore7 (pc := 37) dL_acts_37 ?_
    refine z_aload_n (pc := 39) dL_acts_39 rfl (by first | rfl | exact z_isr_rf _) ?_
    refine z_iconst_0 (pc := 40) dL_acts_40 ?_
    refine z_dup2 (pc := 41) dL_acts_41 (by first | rfl | exact z_isr_cat (z_isr_rf _)) (by first | rfl | exact z_isr_cat (z_isr_rf _)) ?_
    refine z_iald (pc := 42) dL_acts_42 (hg) (z_v0) ?_
    refine z_iload (pc := 43) dL_acts_43 rfl ?_
    rw [z_c0, g0]
    refine z_if_ge (pc := 45) (tgt := 52) dL_acts_45 (by decide) (fun _ => ?_) (fun hn => absurd (nI_pos' (by omega)) hn)
    refine z_iconst_1 (pc := 52) dL_acts_52 ?_
    refine z_iadd (pc := 53) dL_acts_53 ?_
    rw [nI_1]
    refine z_iast (pc := 54) dL_acts_54 (hg) (z_v0) ?_
    rw [z_c0]
    refine z_genU hV hF.2.2 (fun ws2 w2 hV2 e2 eo => ?_)
    refine z_aload_n (pc := 55) dL_acts_55 rfl (by first | rfl | exact z_isr_rf _) ?_
    refine z_callSX (pc := 56) (wL_enter hV2) dL_acts_56 cwL_130 okL_enter rfl (by omega) rfl (Nat.le_of_ble_eq_true rfl) (by omega) (by omega) (fun v wN hN => ?_)
    rcases hN with ⟨-, rfl, hV3⟩ | ⟨h, -⟩
    · have hr : z_rg (nI (N 0 0)) (z_NP N 0 0) := ⟨N 0 0, by rw [e0]; omega, rfl⟩
      have s2 : z_IP I (N 0 0) 2 (N 0 0) 0 = 0 := by simp [z_IP, z_sF]
      have s3 : z_IP I (N 0 0) 3 (N 0 0) 4 = 1000 := by simp [z_IP, z_sF, z_r0]
      refine z_iload (pc := 59) dL_acts_59 rfl ?_
      refine z_icmp_ne (pc := 61) (tgt := 95) dL_acts_61 (by decide) (fun hn => absurd (rfl) hn) (fun _ => ?_)
      refine z_iload (pc := 64) dL_acts_64 rfl ?_
      refine z_if_lt (pc := 66) (tgt := 91) dL_acts_66 (by decide) (fun hn => absurd hn (nI_pos (by omega))) (fun _ => ?_)
      refine z_aload_n (pc := 69) dL_acts_69 rfl (by first | rfl | exact z_isr_rf _) ?_
      refine z_iload (pc := 70) dL_acts_70 rfl ?_
      refine z_callSXp (pc := 72) (wL_score hV3 (nI (N 0 0))) dL_acts_72 cwL_101 okL_score rfl (by omega) rfl (Nat.le_of_ble_eq_true rfl) (by omega) (by omega) ?_
      rw [z_if_t hr, nI_clamp (by omega), s2]
      refine z_if_ne (pc := 75) (tgt := 95) dL_acts_75 (by decide) (fun hn => absurd (rfl) hn) (fun _ => ?_)
      refine z_aload_n (pc := 78) dL_acts_78 rfl (by first | rfl | exact z_isr_rf _) ?_
      refine z_iload (pc := 79) dL_acts_79 rfl ?_
      refine z_iconst_4 (pc := 81) dL_acts_81 ?_
      refine z_callSXp (pc := 82) (wL_rating hV3 (nI (N 0 0)) 4) dL_acts_82 cwL_114 okL_rating rfl (by omega) rfl (Nat.le_of_ble_eq_true rfl) (by omega) (by omega) ?_
      rw [z_if_t hr, z_if_t (show z_rg 4 5 from ⟨4, by decide, rfl⟩), nI_clamp (by omega), z_c4, s3]
      refine z_sipush_1000 (pc := 85) dL_acts_85 ?_
      refine z_icmp_ne (pc := 88) (tgt := 95) dL_acts_88 (by decide) (fun hn => absurd (rfl) hn) (fun _ => ?_)
      refine z_iconst_1 (pc := 91) dL_acts_91 ?_
      refine z_goto (pc := 92) (tgt := 96) dL_acts_92 (by decide) ?_
      refine z_zret (pc := 96) dL_acts_96 rfl (Or.inr rfl ) ( ⟨rfl, _, _, _, _, ws2, fp, fw, _, hV3, (eo ap hne.2.1).trans hwp, (eo aw hne.2.2).trans hww, e2, hLI.enter h8⟩)
    · exact absurd h8 h
  · refine z_icmp_ge (pc := 26) (tgt := 35) dL_acts_26 (by decide) (fun _ => ?_) (fun hn => absurd ((nI_leI (a := 8) (by omega) (by omega)).2 (by omega)) hn)
    refine z_ldc (pc := 35) dL_acts_35 cc32 ?_
    refine z_istore7 (pc := 37) dL_acts_37 ?_
    refine z_aload_n (pc := 39) dL_acts_39 rfl (by first | rfl | exact z_isr_rf _) ?_
    refine z_iconst_0 (pc := 40) dL_acts_40 ?_
    refine z_dup2 (pc := 41) dL_acts_41 (by first | rfl | exact z_isr_cat (z_isr_rf _)) (by first | rfl | exact z_isr_cat (z_isr_rf _)) ?_
    refine z_iald (pc := 42) dL_acts_42 (hg) (z_v0) ?_
    refine z_iload (pc := 43) dL_acts_43 rfl ?_
    rw [z_c0, g0]
    refine z_if_ge (pc := 45) (tgt := 52) dL_acts_45 (by decide) (fun hn => absurd hn (by decide)) (fun _ => ?_)
    refine z_iconst_0 (pc := 48) dL_acts_48 ?_
    refine z_goto (pc := 49) (tgt := 53) dL_acts_49 (by decide) ?_
    refine z_iadd (pc := 53) dL_acts_53 ?_
    rw [Int32.add_zero]
    refine z_iast (pc := 54) dL_acts_54 (hg) (z_v0) ?_
    rw [z_c0]
    refine z_genU hV hF.2.2 (fun ws2 w2 hV2 e2 eo => ?_)
    refine z_aload_n (pc := 55) dL_acts_55 rfl (by first | rfl | exact z_isr_rf _) ?_
    refine z_callSX (pc := 56) (wL_enter hV2) dL_acts_56 cwL_130 okL_enter rfl (by omega) rfl (Nat.le_of_ble_eq_true rfl) (by omega) (by omega) (fun v wN hN => ?_)
    rcases hN with ⟨h, -⟩ | ⟨-, rfl, rfl⟩
    · exact absurd h h8
    · refine z_iload (pc := 59) dL_acts_59 rfl ?_
      refine z_icmp_ne (pc := 61) (tgt := 95) dL_acts_61 (by decide) (fun hn => absurd (rfl) hn) (fun _ => ?_)
      refine z_iload (pc := 64) dL_acts_64 rfl ?_
      refine z_if_lt (pc := 66) (tgt := 91) dL_acts_66 (by decide) (fun _ => ?_) (fun hn => absurd (by decide) hn)
      refine z_iconst_1 (pc := 91) dL_acts_91 ?_
      refine z_goto (pc := 92) (tgt := 96) dL_acts_92 (by decide) ?_
      refine z_zret (pc := 96) dL_acts_96 rfl (Or.inr rfl ) ( ⟨rfl, _, _, _, _, ws2, fp, fw, _, hV2, (eo ap hne.2.1).trans hwp, (eo aw hne.2.2).trans hww, e2, hLI.cg (fun i hi => by by_cases q : i = 0; (rw [q, z_upd_s, g0]); (exact z_upd_n _ _ q))⟩)
end LF

