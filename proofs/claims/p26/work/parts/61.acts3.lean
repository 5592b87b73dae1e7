/-! a beginning -/
def z_Qbeg (G : z_G) (F : Nat → Prop) (a0 : Nat) (ws : z_W) (I : z_TI) (N : z_TN) (oc : Option Nat) (B : z_TB) (w : z_W) (x y : Int32) (v : Option Value) (wN : z_W) : Prop := (∃ p1 p2, p1 < N 0 0 ∧ p2 < N 0 0 ∧ x = nI p1 ∧ y = nI p2 ∧ x ≠ y ∧ oc = none ∧ N 1 0 < 60 ∧ v = some (.int (nI (N 1 0))) ∧ z_V G F a0 ws (z_IG I (N 1 0)) (z_NB N p1 p2) (some (N 1 0)) B wN) ∨ (wN = w ∧ ((¬ (z_rg x (N 0 0) ∧ z_rg y (N 0 0)) ∧ v = some (.int (-1000001))) ∨ ((z_rg x (N 0 0) ∧ z_rg y (N 0 0)) ∧ x = y ∧ v = some (.int (-1000002))) ∨ ((z_rg x (N 0 0) ∧ z_rg y (N 0 0)) ∧ x ≠ y ∧ ¬ (oc = none ∧ N 1 0 < 60) ∧ v = some (.int (-1000003)))))
theorem z_LI.begin {I : z_TI} {N : z_TN} {fp fw fg : Nat → Int32} (h : z_LI I N none fp fw fg) {p1 p2 : Nat} : z_LI (z_IG I (N 1 0)) (z_NB N p1 p2) (some (N 1 0)) fp fw (upd (upd (upd (upd (upd fg 2 1) 3 0) 4 0) 5 (nI p1)) 6 (nI p2)) := by
  obtain ⟨⟨T, t1, t2, t3⟩, ⟨hw1, hw2⟩, h1, g0, g1, g2, g3⟩ := h
  have e1 : z_NB N p1 p2 1 0 = N 1 0 + 1 := by simp [z_NB, z_NG, z_sN]
  have e3 : z_NB N p1 p2 3 (N 1 0) = p1 := by simp [z_NB, z_NG, z_sN]
  have e4 : z_NB N p1 p2 4 (N 1 0) = p2 := by simp [z_NB, z_NG, z_sN]
  have e5 : z_NB N p1 p2 5 (N 1 0) = 0 := by simp [z_NB, z_NG, z_sN]
  have e0 := z_NB_o (N := N) (p1 := p1) (p2 := p2) (f := 0) (by decide) (by decide) (by decide) (by decide) (by decide)
  have u : ∀ i, i < 2 → upd (upd (upd (upd (upd fg 2 1) 3 0) 4 0) 5 (nI p1)) 6 (nI p2) i = fg i := fun i hi => by
    rw [z_upd_n _ _ (by omega), z_upd_n _ _ (by omega), z_upd_n _ _ (by omega), z_upd_n _ _ (by omega), z_upd_n _ _ (by omega)]
  have u2 : upd (upd (upd (upd (upd fg 2 1) 3 0) 4 0) 5 (nI p1)) 6 (nI p2) 2 = 1 := rfl
  have u3 : upd (upd (upd (upd (upd fg 2 1) 3 0) 4 0) 5 (nI p1)) 6 (nI p2) 3 = 0 := rfl
  have u4 : upd (upd (upd (upd (upd fg 2 1) 3 0) 4 0) 5 (nI p1)) 6 (nI p2) 4 = 0 := rfl
  have u5 : upd (upd (upd (upd (upd fg 2 1) 3 0) 4 0) 5 (nI p1)) 6 (nI p2) 5 = nI p1 := rfl
  have u6 : upd (upd (upd (upd (upd fg 2 1) 3 0) 4 0) 5 (nI p1)) 6 (nI p2) 6 = nI p2 := rfl
  unfold z_LI z_tr
  rw [z_IG_f I _ (by decide), z_IG_f I _ (by decide), z_IG_f I _ (by decide), e0, u 0 (by decide), u 1 (by decide), u2, u3, u4, u5, u6]
  refine ⟨⟨T, t1, t2, t3⟩, ⟨hw1, hw2⟩, h1, g0, ?_, rfl, fun g hg => ?_⟩
  · rw [g1]
    show nI (N 1 0) = nI (z_NB N p1 p2 1 0 - 1)
    rw [e1]
    rfl
  · have := Option.some.inj hg
    subst this
    have k : z_kn (z_NB N p1 p2) (N 1 0) = 0 := by unfold z_kn; rw [e5]; rfl
    rw [e3, e4, e5, k]
    exact ⟨rfl, rfl, rfl, rfl⟩
section LH
variable {G : z_G} {F : Nat → Prop} {a0 ap aw ag : Nat} {ws w : z_W} {I : z_TI} {N : z_TN} {oc : Option Nat} {B : z_TB}
theorem iL_actB2 (hF : F ap ∧ F aw ∧ F ag) {fg : Nat → Int32} (hV : z_V G F a0 ws I N none B w) (hwg : ws ag = some (.inl (G.2.1 0, 7, .inl fg))) (f0 : fg 0 = nI (N 0 0)) (f1 : fg 1 = nI (N 1 0)) {d : Int32} {wh bl : Nat} (hB : ∀ v wN, z_Qbeg G F a0 ws I N none B w (nI wh) (nI bl) v wN → v = some (.int d) ∧ ∃ I' N' oc' B', z_V G F a0 ws I' N' oc' B' wN ∧ z_po I' oc' = z_if (d < 0) (-1) 1 ∧ z_edo N' oc' = N 1 0 ∧ z_LX G F a0 ap aw ag I' N' oc' B' wN) {x1 x2 x4 x5 x6 x10 x11 x12 x13 x14 x15 : Option Value} : z_E G zL_acts 10 (z_aq G F a0 ap aw ag) 780 [some (.ref a0), x1, x2, some (.ref ag), x4, x5, x6, some (.int (nI wh)), some (.int (nI bl)), some (.int d), x10, x11, x12, x13, x14, x15] [] w 40 160 := by
  have hn := hV.n
  have hg := (hV.at hF.2.2).trans hwg
  refine z_aload_n (pc := 780) dL_acts_780 rfl (by first | rfl | exact z_isr_rf _) ?_
  refine z_iconst_0 (pc := 781) dL_acts_781 ?_
  refine z_callSX (pc := 782) (wL_move hV 0) dL_acts_782 cwL_139 okL_move rfl (by omega) rfl (Nat.le_of_ble_eq_true rfl) (by omega) (by omega) (fun v wN hN => ?_)
  rcases hN with ⟨g', eg, -⟩ | ⟨rfl, ⟨hr, -⟩ | ⟨-, -, rfl⟩⟩
  · cases eg
  · exact absurd ⟨0, by decide, rfl⟩ hr
  · refine z_ldc (pc := 785) dL_acts_785 cc32 ?_
    refine z_icmp_ne (pc := 787) (tgt := 857) dL_acts_787 (by decide) (fun hn => absurd (rfl) hn) (fun _ => ?_)
    refine z_aload_n (pc := 790) dL_acts_790 rfl (by first | rfl | exact z_isr_rf _) ?_
    refine z_iconst_0 (pc := 791) dL_acts_791 ?_
    refine z_callSX (pc := 792) (wL_end hV 0) dL_acts_792 cwL_143 okL_end rfl (by omega) rfl (Nat.le_of_ble_eq_true rfl) (by omega) (by omega) (fun v wN hN => ?_)
    rcases hN with ⟨g', eg, -⟩ | ⟨rfl, ⟨hr, -⟩ | ⟨-, -, rfl⟩⟩
    · cases eg
    · exact absurd ⟨0, by decide, rfl⟩ hr
    · refine z_ldc (pc := 795) dL_acts_795 cc32 ?_
      refine z_icmp_ne (pc := 797) (tgt := 857) dL_acts_797 (by decide) (fun hn => absurd (rfl) hn) (fun _ => ?_)
      refine z_aload_n (pc := 800) dL_acts_800 rfl (by first | rfl | exact z_isr_rf _) ?_
      refine z_aload_n (pc := 801) dL_acts_801 rfl (by first | rfl | exact z_isr_rf _) ?_
      refine z_iconst_0 (pc := 802) dL_acts_802 ?_
      refine z_iald (pc := 803) dL_acts_803 (hg) (z_v0) ?_
      refine z_iconst_0 (pc := 804) dL_acts_804 ?_
      rw [z_c0, f0]
      refine z_callSX (pc := 805) (wL_begin hV (nI (N 0 0)) 0) dL_acts_805 cwL_141 okL_begin rfl (by omega) rfl (Nat.le_of_ble_eq_true rfl) (by omega) (by omega) (fun v wN hN => ?_)
      rcases hN with ⟨p1, p2, hp1, -, e1, -⟩ | ⟨rfl, ⟨-, rfl⟩ | ⟨⟨hr, -⟩, -⟩ | ⟨⟨hr, -⟩, -⟩⟩
      · have := nI_inj (by omega) (by omega) e1
        omega
      · refine z_ldc (pc := 808) dL_acts_808 cc38 ?_
        refine z_icmp_ne (pc := 810) (tgt := 857) dL_acts_810 (by decide) (fun hn => absurd (rfl) hn) (fun _ => ?_)
        refine z_aload_n (pc := 813) dL_acts_813 rfl (by first | rfl | exact z_isr_rf _) ?_
        refine z_iload (pc := 814) dL_acts_814 rfl ?_
        refine z_iload (pc := 816) dL_acts_816 rfl ?_
        refine z_callSX (pc := 818) (wL_begin hV (nI wh) (nI bl)) dL_acts_818 cwL_141 okL_begin rfl (by omega) rfl (Nat.le_of_ble_eq_true rfl) (by omega) (by omega) (fun v wN hN => ?_)
        obtain ⟨rfl, I', N', oc', B', hV', hpo, hed, hX⟩ := hB _ _ hN
        refine z_iload (pc := 821) dL_acts_821 rfl ?_
        refine z_icmp_ne (pc := 823) (tgt := 857) dL_acts_823 (by decide) (fun hn => absurd (rfl) hn) (fun _ => ?_)
        obtain ⟨fs4, hk4⟩ := hV'.k0
        have hg' := (hV'.at hF.2.2).trans hwg
        refine z_aload_n (pc := 826) dL_acts_826 rfl (by first | rfl | exact z_isr_rf _) ?_
        refine z_callVp (pc := 827) (vX_position hV') dL_acts_827 cwL_133 okX5_position rfl (hk4) rfl rfl (by omega) rfl (Nat.le_of_ble_eq_true rfl) ?_
        rw [hpo]
        refine z_iload (pc := 830) dL_acts_830 rfl ?_
        by_cases hd : d < 0
        · rw [z_if_t hd]
          refine z_if_ge (pc := 832) (tgt := 839) dL_acts_832 (by decide) (fun hn => absurd hn (Int32.not_le.mpr hd)) (fun _ => ?_)
          refine z_iconst_m1 (pc := 835) dL_acts_835 ?_
          refine z_goto (pc := 836) (tgt := 840) dL_acts_836 (by decide) ?_
          refine z_icmp_ne (pc := 840) (tgt := 857) dL_acts_840 (by decide) (fun hn => absurd (rfl) hn) (fun _ => ?_)
          refine z_aload_n (pc := 843) dL_acts_843 rfl (by first | rfl | exact z_isr_rf _) ?_
          refine z_callVp (pc := 844) (vX_games hV') dL_acts_844 cwL_149 okX5_games rfl (hk4) rfl rfl (by omega) rfl (Nat.le_of_ble_eq_true rfl) ?_
          rw [hed]
          refine z_aload_n (pc := 847) dL_acts_847 rfl (by first | rfl | exact z_isr_rf _) ?_
          refine z_iconst_1 (pc := 848) dL_acts_848 ?_
          refine z_iald (pc := 849) dL_acts_849 (hg') (z_v1) ?_
          rw [z_c1, f1]
          refine z_icmp_ne (pc := 850) (tgt := 857) dL_acts_850 (by decide) (fun hn => absurd (rfl) hn) (fun _ => ?_)
          refine z_iconst_1 (pc := 853) dL_acts_853 ?_
          refine z_goto (pc := 854) (tgt := 858) dL_acts_854 (by decide) ?_
          refine z_zret (pc := 858) dL_acts_858 rfl (Or.inr rfl ) ( ⟨rfl, _, _, _, _, hX⟩)
        · rw [z_if_f hd]
          refine z_if_ge (pc := 832) (tgt := 839) dL_acts_832 (by decide) (fun _ => ?_) (fun hn => absurd (Int32.not_lt.mp hd) hn)
          refine z_iconst_1 (pc := 839) dL_acts_839 ?_
          refine z_icmp_ne (pc := 840) (tgt := 857) dL_acts_840 (by decide) (fun hn => absurd (rfl) hn) (fun _ => ?_)
          refine z_aload_n (pc := 843) dL_acts_843 rfl (by first | rfl | exact z_isr_rf _) ?_
          refine z_callVp (pc := 844) (vX_games hV') dL_acts_844 cwL_149 okX5_games rfl (hk4) rfl rfl (by omega) rfl (Nat.le_of_ble_eq_true rfl) ?_
          rw [hed]
          refine z_aload_n (pc := 847) dL_acts_847 rfl (by first | rfl | exact z_isr_rf _) ?_
          refine z_iconst_1 (pc := 848) dL_acts_848 ?_
          refine z_iald (pc := 849) dL_acts_849 (hg') (z_v1) ?_
          rw [z_c1, f1]
          refine z_icmp_ne (pc := 850) (tgt := 857) dL_acts_850 (by decide) (fun hn => absurd (rfl) hn) (fun _ => ?_)
          refine z_iconst_1 (pc := 853) dL_acts_853 ?_
          refine z_goto (pc := 854) (tgt := 858) dL_acts_854 (by decide) ?_
          refine z_zret (pc := 858) dL_acts_858 rfl (Or.inr rfl ) ( ⟨rfl, _, _, _, _, hX⟩)
      · exact absurd hr (z_rg_ge (by omega) (nI_le (Nat.le_refl _) (by omega)))
      · exact absurd hr (z_rg_ge (by omega) (nI_le (Nat.le_refl _) (by omega)))
theorem iL_actB (hF : F ap ∧ F aw ∧ F ag) (hne : ap ≠ aw ∧ ap ≠ ag ∧ aw ≠ ag) {fp fw fg : Nat → Int32} (hV : z_V G F a0 ws I N none B w) (hwp : ws ap = some (.inl (G.2.1 0, 16, .inl fp))) (hww : ws aw = some (.inl (G.2.1 0, 8, .inl fw))) (hwg : ws ag = some (.inl (G.2.1 0, 7, .inl fg))) (hLI : z_LI I N none fp fw fg) {y : Int32} {x1 x2 x4 x6 x7 x8 x9 x10 x11 x12 x13 x14 x15 : Option Value} : z_E G zL_acts 10 (z_aq G F a0 ap aw ag) 700 [some (.ref a0), x1, x2, some (.ref ag), x4, some (.int y), x6, x7, x8, x9, x10, x11, x12, x13, x14, x15] [] w 40 160 := by
  have hn := hV.n
  have hLI2 := hLI
  obtain ⟨-, -, h1, g0, g1, -⟩ := hLI2
  have g1 : fg 1 = nI (N 1 0) := g1
  have hFg := hF.2.2
  have hg := (hV.at hFg).trans hwg
  refine z_iload (pc := 700) dL_acts_700 rfl ?_
  refine z_aload_n (pc := 702) dL_acts_702 rfl (by first | rfl | exact z_isr_rf _) ?_
  refine z_iconst_0 (pc := 703) dL_acts_703 ?_
  refine z_iald (pc := 704) dL_acts_704 (hg) (z_v0) ?_
  rw [z_c0, g0]
  refine z_callS (pc := 705) (mL_low y (n := N 0 0) (by omega) (by omega)) dL_acts_705 cwL_127 okL_low rfl (by omega) rfl (Nat.le_of_ble_eq_true rfl) (by omega) (by omega) (fun _ _ h => h.elim) (fun v wN hN => ?_)
  obtain ⟨rfl, wh, hwh, rfl⟩ := hN
  refine z_istore7 (pc := 708) dL_acts_708 ?_
  refine z_iload (pc := 710) dL_acts_710 rfl ?_
  refine z_iconst_4 (pc := 712) dL_acts_712 ?_
  refine z_ishr (pc := 713) dL_acts_713 ?_
  refine z_aload_n (pc := 714) dL_acts_714 rfl (by first | rfl | exact z_isr_rf _) ?_
  refine z_iconst_0 (pc := 715) dL_acts_715 ?_
  refine z_iald (pc := 716) dL_acts_716 (hg) (z_v0) ?_
  rw [z_c0, g0]
  refine z_callS (pc := 717) (mL_low (y >>> (4 &&& 31)) (n := N 0 0) (by omega) (by omega)) dL_acts_717 cwL_127 okL_low rfl (by omega) rfl (Nat.le_of_ble_eq_true rfl) (by omega) (by omega) (fun _ _ h => h.elim) (fun v wN hN => ?_)
  obtain ⟨rfl, bl, hbl, rfl⟩ := hN
  have hrr : z_rg (nI wh) (N 0 0) ∧ z_rg (nI bl) (N 0 0) := ⟨⟨wh, hwh, rfl⟩, ⟨bl, hbl, rfl⟩⟩
  have hX : z_LX G F a0 ap aw ag I N none B _ := ⟨ws, fp, fw, fg, hV, hwp, hww, hwg, hLI⟩
  refine z_istore8 (pc := 720) dL_acts_720 ?_
  refine z_iload (pc := 722) dL_acts_722 rfl ?_
  refine z_iload (pc := 724) dL_acts_724 rfl ?_
  by_cases he : wh = bl
  · subst he
    refine z_icmp_ne (pc := 726) (tgt := 734) dL_acts_726 (by decide) (fun hn => absurd (rfl) hn) (fun _ => ?_)
    refine z_ldc (pc := 729) dL_acts_729 cc18 ?_
    refine z_goto (pc := 731) (tgt := 750) dL_acts_731 (by decide) ?_
    refine z_istore9 (pc := 750) dL_acts_750 ?_
    refine z_iload (pc := 752) dL_acts_752 rfl ?_
    refine z_if_lt (pc := 754) (tgt := 780) dL_acts_754 (by decide) (fun _ => ?_) (fun hn => absurd (by decide) hn)
    refine z_E.mono (by omega) (by omega) (iL_actB2 hF hV hwg g0 g1 (fun v wN h => ?_))
    rcases h with ⟨p1, p2, -, -, -, -, h2, -⟩ | ⟨rfl, ⟨h2, -⟩ | ⟨-, -, rfl⟩ | ⟨-, h2, -⟩⟩
    · exact absurd rfl h2
    · exact absurd hrr h2
    · exact ⟨rfl, I, N, none, B, hV, (z_if_t (by decide)).symm, rfl, hX⟩
    · exact absurd rfl h2
  · have hen : nI wh ≠ nI bl := fun z => he (nI_inj (by omega) (by omega) z)
    refine z_icmp_ne (pc := 726) (tgt := 734) dL_acts_726 (by decide) (fun _ => ?_) (fun hn => absurd hn (hen))
    refine z_aload_n (pc := 734) dL_acts_734 rfl (by first | rfl | exact z_isr_rf _) ?_
    refine z_iconst_1 (pc := 735) dL_acts_735 ?_
    refine z_iald (pc := 736) dL_acts_736 (hg) (z_v1) ?_
    refine z_bipush_60 (pc := 737) dL_acts_737 ?_
    rw [z_c1, g1]
    by_cases h60 : N 1 0 = 60
    · refine z_icmp_ne (pc := 739) (tgt := 747) dL_acts_739 (by decide) (fun hn => absurd (by rw [h60]; rfl) hn) (fun _ => ?_)
      refine z_ldc (pc := 742) dL_acts_742 cc32 ?_
      refine z_goto (pc := 744) (tgt := 750) dL_acts_744 (by decide) ?_
      refine z_istore9 (pc := 750) dL_acts_750 ?_
      refine z_iload (pc := 752) dL_acts_752 rfl ?_
      refine z_if_lt (pc := 754) (tgt := 780) dL_acts_754 (by decide) (fun _ => ?_) (fun hn => absurd (by decide) hn)
      refine z_E.mono (by omega) (by omega) (iL_actB2 hF hV hwg g0 g1 (fun v wN h => ?_))
      rcases h with ⟨p1, p2, -, -, -, -, -, -, h2, -⟩ | ⟨rfl, ⟨h2, -⟩ | ⟨-, h2, -⟩ | ⟨-, -, -, rfl⟩⟩
      · omega
      · exact absurd hrr h2
      · exact absurd h2 hen
      · exact ⟨rfl, I, N, none, B, hV, (z_if_t (by decide)).symm, rfl, hX⟩
    · refine z_icmp_ne (pc := 739) (tgt := 747) dL_acts_739 (by decide) (fun _ => ?_) (fun hn => absurd hn (fun z => h60 (nI_inj (b := 60) (by omega) (by omega) z)))
      refine z_aload_n (pc := 747) dL_acts_747 rfl (by first | rfl | exact z_isr_rf _) ?_
      refine z_iconst_1 (pc := 748) dL_acts_748 ?_
      refine z_iald (pc := 749) dL_acts_749 (hg) (z_v1) ?_
      refine z_istore9 (pc := 750) dL_acts_750 ?_
      refine z_iload (pc := 752) dL_acts_752 rfl ?_
      rw [z_c1, g1]
      refine z_if_lt (pc := 754) (tgt := 780) dL_acts_754 (by decide) (fun hn => absurd hn (nI_pos (by omega))) (fun _ => ?_)
      refine z_aload_n (pc := 757) dL_acts_757 rfl (by first | rfl | exact z_isr_rf _) ?_
      refine z_iconst_2 (pc := 758) dL_acts_758 ?_
      refine z_iconst_1 (pc := 759) dL_acts_759 ?_
      refine z_iast (pc := 760) dL_acts_760 (hg) (z_v2) ?_
      rw [z_c2]
      refine z_genU hV hFg (fun ws1 w1 hV1 e1 o1 => ?_)
      refine z_aload_n (pc := 761) dL_acts_761 rfl (by first | rfl | exact z_isr_rf _) ?_
      refine z_iconst_3 (pc := 762) dL_acts_762 ?_
      refine z_iconst_0 (pc := 763) dL_acts_763 ?_
      refine z_iast (pc := 764) dL_acts_764 ((hV1.at hFg).trans e1) (z_v3) ?_
      rw [z_c3]
      refine z_genU hV1 hFg (fun ws2 w2 hV2 e2 o2 => ?_)
      refine z_aload_n (pc := 765) dL_acts_765 rfl (by first | rfl | exact z_isr_rf _) ?_
      refine z_iconst_4 (pc := 766) dL_acts_766 ?_
      refine z_iconst_0 (pc := 767) dL_acts_767 ?_
      refine z_iast (pc := 768) dL_acts_768 ((hV2.at hFg).trans e2) (z_v4) ?_
      rw [z_c4]
      refine z_genU hV2 hFg (fun ws3 w3 hV3 e3 o3 => ?_)
      refine z_aload_n (pc := 769) dL_acts_769 rfl (by first | rfl | exact z_isr_rf _) ?_
      refine z_iconst_5 (pc := 770) dL_acts_770 ?_
      refine z_iload (pc := 771) dL_acts_771 rfl ?_
      refine z_iast (pc := 773) dL_acts_773 ((hV3.at hFg).trans e3) (z_v5) ?_
      rw [z_c5]
      refine z_genU hV3 hFg (fun ws4 w4 hV4 e4 o4 => ?_)
      refine z_aload_n (pc := 774) dL_acts_774 rfl (by first | rfl | exact z_isr_rf _) ?_
      refine z_bipush_6 (pc := 775) dL_acts_775 ?_
      refine z_iload (pc := 777) dL_acts_777 rfl ?_
      refine z_iast (pc := 779) dL_acts_779 ((hV4.at hFg).trans e4) (z_v6) ?_
      rw [z_c6]
      refine z_genU hV4 hFg (fun ws5 w5 hV5 e5 o5 => ?_)
      have oo : ∀ b, b ≠ ag → ws5 b = ws b := fun b hb => (o5 b hb).trans ((o4 b hb).trans ((o3 b hb).trans ((o2 b hb).trans (o1 b hb))))
      refine z_E.mono (by omega) (by omega) (iL_actB2 hF hV5 e5 (by rw [z_upd_n _ _ (by decide), z_upd_n _ _ (by decide), z_upd_n _ _ (by decide), z_upd_n _ _ (by decide), z_upd_n _ _ (by decide)]; exact g0) (by rw [z_upd_n _ _ (by decide), z_upd_n _ _ (by decide), z_upd_n _ _ (by decide), z_upd_n _ _ (by decide), z_upd_n _ _ (by decide)]; exact g1) (fun v wN h => ?_))
      rcases h with ⟨p1, p2, hp1, hp2, a1, a2, -, -, h59, rfl, hV6⟩ | ⟨rfl, ⟨h2, -⟩ | ⟨-, h2, -⟩ | ⟨-, -, h2, -⟩⟩
      · have q1 := nI_inj (by omega) (by omega) a1
        have q2 := nI_inj (by omega) (by omega) a2
        subst q1 q2
        have e1' : z_NB N wh bl 1 0 = N 1 0 + 1 := by simp [z_NB, z_NG, z_sN]
        refine ⟨rfl, _, _, _, _, hV6, ?_, ?_, ws5, fp, fw, _, hV6, (oo ap hne.2.1).trans hwp, (oo aw hne.2.2).trans hww, e5, hLI.begin⟩
        · rw [z_if_f (nI_pos (by omega))]
          show z_IG I (N 1 0) 6 (N 1 0) 0 = 1
          simp [z_IG, z_sF]
        · show z_NB N wh bl 1 0 - 1 = N 1 0
          rw [e1']
          rfl
      · exact absurd hrr h2
      · exact absurd h2 hen
      · exact absurd ⟨rfl, by omega⟩ h2
end LH

