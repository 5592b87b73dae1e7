/-! .. more of them -/
section LAW3
variable {G : z_G} {A : z_TA} {I : z_TI} {N : z_TN} {O : z_TO} {B : z_TB} {A6 : z_TA} {M : z_TM} {qo qd : Nat} {vo : Nat → Int64} {vd : Nat → UInt64} {w : z_W} {i k n : Nat} {Z : z_Gq}
theorem kL_score (h : z_LW G A I N O B A6 M qo qd vo vd w) (hJ : z_J I N O B M) (hL : G.2.2.2.2.2.1 ≤ 2048) (hi : i + 4 ≤ G.2.2.2.2.2.1) (hk : 24 ≤ k) (hn : 84 ≤ n) (nx : z_nxt G A A6 qo qd i Z (k - 24) (n - 84)) (x6 x7 : Option Value) : z_E G zL_law 9 Z 589 [some (.ref G.2.2.2.2.1), some (.ref (A 0 0 0)), some (.ref (A6 22 0 0)), some (.ref qo), some (.ref qd), some (.int (nI i)), x6, x7] [] w k n := by
  have v1 : vp_in (nI i + 1) G.2.2.2.2.2.1 := by rw [show (1 : Int32) = nI 1 from rfl, nI_add]; exact vp_in_nI (by omega) (by omega)
  refine z_aload_n (pc := 589) dL_law_589 rfl (by first | rfl | exact z_isr_rf _) ?_
  refine z_aload_n (pc := 590) dL_law_590 rfl (by first | rfl | exact z_isr_rf _) ?_
  refine z_iload (pc := 591) dL_law_591 rfl ?_
  refine z_iconst_1 (pc := 593) dL_law_593 ?_
  refine z_iadd (pc := 594) dL_law_594 ?_
  refine z_sld (pc := 595) dL_law_595 (v1) ?_
  refine z_aload_n (pc := 596) dL_law_596 rfl (by first | rfl | exact z_isr_rf _) ?_
  refine z_callSX (pc := 597) (wL_score h hJ (G.2.2.2.2.2.2 (nI i + 1).toNatClampNeg)) dL_law_597 cwL_123 okL_score rfl (by omega) rfl (Nat.le_of_ble_eq_true rfl) (by omega) (by omega) (fun v wN hN => ?_)
  obtain ⟨kk, r, A', I', N', O', B', vo', rfl, hq, hvo, hA, hW⟩ := hN
  refine z_istore6 (pc := 600) dL_law_600 ?_
  refine z_aload_n (pc := 602) dL_law_602 rfl (by first | rfl | exact z_isr_rf _) ?_
  refine z_aload_n (pc := 603) dL_law_603 rfl (by first | rfl | exact z_isr_rf _) ?_
  refine z_iload (pc := 604) dL_law_604 rfl ?_
  refine z_iconst_1 (pc := 606) dL_law_606 ?_
  refine z_iadd (pc := 607) dL_law_607 ?_
  refine z_sld (pc := 608) dL_law_608 (v1) ?_
  refine z_callV (pc := 609) (rL_score hW.2.1 hJ (G.2.2.2.2.2.2 (nI i + 1).toNatClampNeg) hq) dL_law_609 cwL_125 okX6_score rfl (hW.2.1.k22) rfl rfl (by omega) rfl (Nat.le_of_ble_eq_true rfl) (by omega) (by omega) (fun _ _ h => h.elim) (fun v wN hN => ?_)
  obtain ⟨b, M', rfl, hJ', h21, hbr, hM', hf'⟩ := hN
  have hW' := hW.ref hM' hf'
  refine z_istore7 (pc := 612) dL_law_612 ?_
  refine z_aload_n (pc := 614) dL_law_614 rfl (by first | rfl | exact z_isr_rf _) ?_
  refine z_callVp (pc := 615) (mX6_thrown hM') dL_law_615 cwL_92 okX6_thrown rfl (hM'.k22) rfl rfl (by omega) rfl (Nat.le_of_ble_eq_true rfl) ?_
  rw [h21]
  refine z_iload (pc := 618) dL_law_618 rfl ?_
  refine z_icmp_eq (pc := 620) (tgt := 625) dL_law_620 (by decide) (fun _ => ?_) (fun hn => absurd (rfl) hn)
  refine z_iload (pc := 625) dL_law_625 rfl ?_
  refine z_if_ne (pc := 627) (tgt := 642) dL_law_627 (by decide) (fun hz => ?_) (fun hz => ?_)
  · refine z_goto (pc := 642) (tgt := 1469) dL_law_642 (by decide) ?_
    exact z_E.le (by omega) (by omega) (nx A' I' N' O' B' M' vo' vd _ _ _ hA hW' hJ')
  · refine z_aload_n (pc := 630) dL_law_630 rfl (by first | rfl | exact z_isr_rf _) ?_
    refine z_iconst_0 (pc := 631) dL_law_631 ?_
    refine z_lald (pc := 632) dL_law_632 (hW'.2.2.1) (z_v01) ?_
    refine z_iload (pc := 633) dL_law_633 rfl ?_
    refine z_i2l (pc := 635) dL_law_635 ?_
    refine z_lcmp (pc := 636) dL_law_636 ?_
    refine z_if_eq (pc := 637) (tgt := 642) dL_law_637 (by decide) (fun _ => ?_) (fun hn => absurd ((lg_cmp_eq _ _).2 ((hvo hz).trans (by rw [hbr hz]))) hn)
    refine z_goto (pc := 642) (tgt := 1469) dL_law_642 (by decide) ?_
    exact z_E.le (by omega) (by omega) (nx A' I' N' O' B' M' vo' vd _ _ _ hA hW' hJ')
theorem kL_puzzles (h : z_LW G A I N O B A6 M qo qd vo vd w) (hJ : z_J I N O B M) (hL : G.2.2.2.2.2.1 ≤ 2048) (hi : i + 4 ≤ G.2.2.2.2.2.1) (hk : 24 ≤ k) (hn : 84 ≤ n) (nx : z_nxt G A A6 qo qd i Z (k - 24) (n - 84)) (x6 x7 : Option Value) : z_E G zL_law 9 Z 645 [some (.ref G.2.2.2.2.1), some (.ref (A 0 0 0)), some (.ref (A6 22 0 0)), some (.ref qo), some (.ref qd), some (.int (nI i)), x6, x7] [] w k n := by
  refine z_aload_n (pc := 645) dL_law_645 rfl (by first | rfl | exact z_isr_rf _) ?_
  refine z_callVp (pc := 646) (mX5_puzzles h.1) dL_law_646 cwL_126 okX5_puzzles rfl (h.1.k0) rfl rfl (by omega) rfl (Nat.le_of_ble_eq_true rfl) ?_
  refine z_aload_n (pc := 649) dL_law_649 rfl (by first | rfl | exact z_isr_rf _) ?_
  refine z_callV (pc := 650) (mX6_puzzles h.2.1) dL_law_650 cwL_129 okX6_puzzles rfl (h.2.1.k22) rfl rfl (by omega) rfl (Nat.le_of_ble_eq_true rfl) (by omega) (by omega) (fun _ _ h => h.elim) (fun v wN hN => ?_)
  obtain ⟨rfl, hM', hf'⟩ := hN
  have hW' := h.ref hM' hf'
  refine z_icmp_eq (pc := 653) (tgt := 1469) dL_law_653 (by decide) (fun _ => ?_) (fun hn => absurd (hJ.qpuzzles) hn)
  exact z_E.le (by omega) (by omega) (nx A I N O B _ vo vd _ _ _ rfl hW' (hJ.set21 0))
theorem kL_puzzle (h : z_LW G A I N O B A6 M qo qd vo vd w) (hJ : z_J I N O B M) (hL : G.2.2.2.2.2.1 ≤ 2048) (hi : i + 4 ≤ G.2.2.2.2.2.1) (hk : 24 ≤ k) (hn : 84 ≤ n) (nx : z_nxt G A A6 qo qd i Z (k - 24) (n - 84)) (x6 x7 : Option Value) : z_E G zL_law 9 Z 658 [some (.ref G.2.2.2.2.1), some (.ref (A 0 0 0)), some (.ref (A6 22 0 0)), some (.ref qo), some (.ref qd), some (.int (nI i)), x6, x7] [] w k n := by
  have v1 : vp_in (nI i + 1) G.2.2.2.2.2.1 := by rw [show (1 : Int32) = nI 1 from rfl, nI_add]; exact vp_in_nI (by omega) (by omega)
  refine z_aload_n (pc := 658) dL_law_658 rfl (by first | rfl | exact z_isr_rf _) ?_
  refine z_aload_n (pc := 659) dL_law_659 rfl (by first | rfl | exact z_isr_rf _) ?_
  refine z_iload (pc := 660) dL_law_660 rfl ?_
  refine z_iconst_1 (pc := 662) dL_law_662 ?_
  refine z_iadd (pc := 663) dL_law_663 ?_
  refine z_sld (pc := 664) dL_law_664 (v1) ?_
  refine z_aload_n (pc := 665) dL_law_665 rfl (by first | rfl | exact z_isr_rf _) ?_
  refine z_callSX (pc := 666) (wL_puzzle h hJ (G.2.2.2.2.2.2 (nI i + 1).toNatClampNeg)) dL_law_666 cwL_130 okL_puzzle rfl (by omega) rfl (Nat.le_of_ble_eq_true rfl) (by omega) (by omega) (fun v wN hN => ?_)
  obtain ⟨kk, r, A', I', N', O', B', vo', rfl, hq, hvo, hA, hW⟩ := hN
  refine z_istore6 (pc := 669) dL_law_669 ?_
  refine z_aload_n (pc := 671) dL_law_671 rfl (by first | rfl | exact z_isr_rf _) ?_
  refine z_aload_n (pc := 672) dL_law_672 rfl (by first | rfl | exact z_isr_rf _) ?_
  refine z_iload (pc := 673) dL_law_673 rfl ?_
  refine z_iconst_1 (pc := 675) dL_law_675 ?_
  refine z_iadd (pc := 676) dL_law_676 ?_
  refine z_sld (pc := 677) dL_law_677 (v1) ?_
  refine z_callV (pc := 678) (rL_puzzle hW.2.1 hJ (G.2.2.2.2.2.2 (nI i + 1).toNatClampNeg) hq) dL_law_678 cwL_132 okX6_puzzle rfl (hW.2.1.k22) rfl rfl (by omega) rfl (Nat.le_of_ble_eq_true rfl) (by omega) (by omega) (fun _ _ h => h.elim) (fun v wN hN => ?_)
  obtain ⟨b, M', rfl, hJ', h21, hbr, hM', hf'⟩ := hN
  have hW' := hW.ref hM' hf'
  refine z_istore7 (pc := 681) dL_law_681 ?_
  refine z_aload_n (pc := 683) dL_law_683 rfl (by first | rfl | exact z_isr_rf _) ?_
  refine z_callVp (pc := 684) (mX6_thrown hM') dL_law_684 cwL_92 okX6_thrown rfl (hM'.k22) rfl rfl (by omega) rfl (Nat.le_of_ble_eq_true rfl) ?_
  rw [h21]
  refine z_iload (pc := 687) dL_law_687 rfl ?_
  refine z_icmp_eq (pc := 689) (tgt := 694) dL_law_689 (by decide) (fun _ => ?_) (fun hn => absurd (rfl) hn)
  refine z_iload (pc := 694) dL_law_694 rfl ?_
  refine z_if_ne (pc := 696) (tgt := 711) dL_law_696 (by decide) (fun hz => ?_) (fun hz => ?_)
  · refine z_goto (pc := 711) (tgt := 1469) dL_law_711 (by decide) ?_
    exact z_E.le (by omega) (by omega) (nx A' I' N' O' B' M' vo' vd _ _ _ hA hW' hJ')
  · refine z_aload_n (pc := 699) dL_law_699 rfl (by first | rfl | exact z_isr_rf _) ?_
    refine z_iconst_0 (pc := 700) dL_law_700 ?_
    refine z_lald (pc := 701) dL_law_701 (hW'.2.2.1) (z_v01) ?_
    refine z_iload (pc := 702) dL_law_702 rfl ?_
    refine z_i2l (pc := 704) dL_law_704 ?_
    refine z_lcmp (pc := 705) dL_law_705 ?_
    refine z_if_eq (pc := 706) (tgt := 711) dL_law_706 (by decide) (fun _ => ?_) (fun hn => absurd ((lg_cmp_eq _ _).2 ((hvo hz).trans (by rw [hbr hz]))) hn)
    refine z_goto (pc := 711) (tgt := 1469) dL_law_711 (by decide) ?_
    exact z_E.le (by omega) (by omega) (nx A' I' N' O' B' M' vo' vd _ _ _ hA hW' hJ')
theorem kL_source (h : z_LW G A I N O B A6 M qo qd vo vd w) (hJ : z_J I N O B M) (hL : G.2.2.2.2.2.1 ≤ 2048) (hi : i + 4 ≤ G.2.2.2.2.2.1) (hk : 24 ≤ k) (hn : 84 ≤ n) (nx : z_nxt G A A6 qo qd i Z (k - 24) (n - 84)) (x6 x7 : Option Value) : z_E G zL_law 9 Z 714 [some (.ref G.2.2.2.2.1), some (.ref (A 0 0 0)), some (.ref (A6 22 0 0)), some (.ref qo), some (.ref qd), some (.int (nI i)), x6, x7] [] w k n := by
  have v1 : vp_in (nI i + 1) G.2.2.2.2.2.1 := by rw [show (1 : Int32) = nI 1 from rfl, nI_add]; exact vp_in_nI (by omega) (by omega)
  refine z_aload_n (pc := 714) dL_law_714 rfl (by first | rfl | exact z_isr_rf _) ?_
  refine z_aload_n (pc := 715) dL_law_715 rfl (by first | rfl | exact z_isr_rf _) ?_
  refine z_iload (pc := 716) dL_law_716 rfl ?_
  refine z_iconst_1 (pc := 718) dL_law_718 ?_
  refine z_iadd (pc := 719) dL_law_719 ?_
  refine z_sld (pc := 720) dL_law_720 (v1) ?_
  refine z_aload_n (pc := 721) dL_law_721 rfl (by first | rfl | exact z_isr_rf _) ?_
  refine z_callSX (pc := 722) (wL_source h hJ (G.2.2.2.2.2.2 (nI i + 1).toNatClampNeg)) dL_law_722 cwL_133 okL_source rfl (by omega) rfl (Nat.le_of_ble_eq_true rfl) (by omega) (by omega) (fun v wN hN => ?_)
  obtain ⟨kk, r, A', I', N', O', B', vo', rfl, hq, hvo, hA, hW⟩ := hN
  refine z_istore6 (pc := 725) dL_law_725 ?_
  refine z_aload_n (pc := 727) dL_law_727 rfl (by first | rfl | exact z_isr_rf _) ?_
  refine z_aload_n (pc := 728) dL_law_728 rfl (by first | rfl | exact z_isr_rf _) ?_
  refine z_iload (pc := 729) dL_law_729 rfl ?_
  refine z_iconst_1 (pc := 731) dL_law_731 ?_
  refine z_iadd (pc := 732) dL_law_732 ?_
  refine z_sld (pc := 733) dL_law_733 (v1) ?_
  refine z_callV (pc := 734) (rL_source hW.2.1 hJ (G.2.2.2.2.2.2 (nI i + 1).toNatClampNeg) hq) dL_law_734 cwL_135 okX6_source rfl (hW.2.1.k22) rfl rfl (by omega) rfl (Nat.le_of_ble_eq_true rfl) (by omega) (by omega) (fun _ _ h => h.elim) (fun v wN hN => ?_)
  obtain ⟨b, M', rfl, hJ', h21, hbr, hM', hf'⟩ := hN
  have hW' := hW.ref hM' hf'
  refine z_istore7 (pc := 737) dL_law_737 ?_
  refine z_aload_n (pc := 739) dL_law_739 rfl (by first | rfl | exact z_isr_rf _) ?_
  refine z_callVp (pc := 740) (mX6_thrown hM') dL_law_740 cwL_92 okX6_thrown rfl (hM'.k22) rfl rfl (by omega) rfl (Nat.le_of_ble_eq_true rfl) ?_
  rw [h21]
  refine z_iload (pc := 743) dL_law_743 rfl ?_
  refine z_icmp_eq (pc := 745) (tgt := 750) dL_law_745 (by decide) (fun _ => ?_) (fun hn => absurd (rfl) hn)
  refine z_iload (pc := 750) dL_law_750 rfl ?_
  refine z_if_ne (pc := 752) (tgt := 767) dL_law_752 (by decide) (fun hz => ?_) (fun hz => ?_)
  · refine z_goto (pc := 767) (tgt := 1469) dL_law_767 (by decide) ?_
    exact z_E.le (by omega) (by omega) (nx A' I' N' O' B' M' vo' vd _ _ _ hA hW' hJ')
  · refine z_aload_n (pc := 755) dL_law_755 rfl (by first | rfl | exact z_isr_rf _) ?_
    refine z_iconst_0 (pc := 756) dL_law_756 ?_
    refine z_lald (pc := 757) dL_law_757 (hW'.2.2.1) (z_v01) ?_
    refine z_iload (pc := 758) dL_law_758 rfl ?_
    refine z_i2l (pc := 760) dL_law_760 ?_
    refine z_lcmp (pc := 761) dL_law_761 ?_
    refine z_if_eq (pc := 762) (tgt := 767) dL_law_762 (by decide) (fun _ => ?_) (fun hn => absurd ((lg_cmp_eq _ _).2 ((hvo hz).trans (by rw [hbr hz]))) hn)
    refine z_goto (pc := 767) (tgt := 1469) dL_law_767 (by decide) ?_
    exact z_E.le (by omega) (by omega) (nx A' I' N' O' B' M' vo' vd _ _ _ hA hW' hJ')
theorem kL_solve (h : z_LW G A I N O B A6 M qo qd vo vd w) (hJ : z_J I N O B M) (hL : G.2.2.2.2.2.1 ≤ 2048) (hi : i + 4 ≤ G.2.2.2.2.2.1) (hk : 24 ≤ k) (hn : 84 ≤ n) (nx : z_nxt G A A6 qo qd i Z (k - 24) (n - 84)) (x6 x7 : Option Value) : z_E G zL_law 9 Z 770 [some (.ref G.2.2.2.2.1), some (.ref (A 0 0 0)), some (.ref (A6 22 0 0)), some (.ref qo), some (.ref qd), some (.int (nI i)), x6, x7] [] w k n := by
  have v1 : vp_in (nI i + 1) G.2.2.2.2.2.1 := by rw [show (1 : Int32) = nI 1 from rfl, nI_add]; exact vp_in_nI (by omega) (by omega)
  have v2 : vp_in (nI i + 2) G.2.2.2.2.2.1 := by rw [show (2 : Int32) = nI 2 from rfl, nI_add]; exact vp_in_nI (by omega) (by omega)
  have v3 : vp_in (nI i + 3) G.2.2.2.2.2.1 := by rw [show (3 : Int32) = nI 3 from rfl, nI_add]; exact vp_in_nI (by omega) (by omega)
  refine z_aload_n (pc := 770) dL_law_770 rfl (by first | rfl | exact z_isr_rf _) ?_
  refine z_aload_n (pc := 771) dL_law_771 rfl (by first | rfl | exact z_isr_rf _) ?_
  refine z_iload (pc := 772) dL_law_772 rfl ?_
  refine z_iconst_1 (pc := 774) dL_law_774 ?_
  refine z_iadd (pc := 775) dL_law_775 ?_
  refine z_sld (pc := 776) dL_law_776 (v1) ?_
  refine z_aload_n (pc := 777) dL_law_777 rfl (by first | rfl | exact z_isr_rf _) ?_
  refine z_iload (pc := 778) dL_law_778 rfl ?_
  refine z_iconst_2 (pc := 780) dL_law_780 ?_
  refine z_iadd (pc := 781) dL_law_781 ?_
  refine z_sld (pc := 782) dL_law_782 (v2) ?_
  refine z_aload_n (pc := 783) dL_law_783 rfl (by first | rfl | exact z_isr_rf _) ?_
  refine z_iload (pc := 784) dL_law_784 rfl ?_
  refine z_iconst_3 (pc := 786) dL_law_786 ?_
  refine z_iadd (pc := 787) dL_law_787 ?_
  refine z_sld (pc := 788) dL_law_788 (v3) ?_
  refine z_aload_n (pc := 789) dL_law_789 rfl (by first | rfl | exact z_isr_rf _) ?_
  refine z_callSX (pc := 790) (wL_solve h hJ (G.2.2.2.2.2.2 (nI i + 1).toNatClampNeg) (G.2.2.2.2.2.2 (nI i + 2).toNatClampNeg) (G.2.2.2.2.2.2 (nI i + 3).toNatClampNeg)) dL_law_790 cwL_136 okL_solve rfl (by omega) rfl (Nat.le_of_ble_eq_true rfl) (by omega) (by omega) (fun v wN hN => ?_)
  obtain ⟨kk, r, A', I', N', O', B', vo', rfl, hq, hvo, hA, hW⟩ := hN
  refine z_istore6 (pc := 793) dL_law_793 ?_
  refine z_aload_n (pc := 795) dL_law_795 rfl (by first | rfl | exact z_isr_rf _) ?_
  refine z_aload_n (pc := 796) dL_law_796 rfl (by first | rfl | exact z_isr_rf _) ?_
  refine z_iload (pc := 797) dL_law_797 rfl ?_
  refine z_iconst_1 (pc := 799) dL_law_799 ?_
  refine z_iadd (pc := 800) dL_law_800 ?_
  refine z_sld (pc := 801) dL_law_801 (v1) ?_
  refine z_aload_n (pc := 802) dL_law_802 rfl (by first | rfl | exact z_isr_rf _) ?_
  refine z_iload (pc := 803) dL_law_803 rfl ?_
  refine z_iconst_2 (pc := 805) dL_law_805 ?_
  refine z_iadd (pc := 806) dL_law_806 ?_
  refine z_sld (pc := 807) dL_law_807 (v2) ?_
  refine z_aload_n (pc := 808) dL_law_808 rfl (by first | rfl | exact z_isr_rf _) ?_
  refine z_iload (pc := 809) dL_law_809 rfl ?_
  refine z_iconst_3 (pc := 811) dL_law_811 ?_
  refine z_iadd (pc := 812) dL_law_812 ?_
  refine z_sld (pc := 813) dL_law_813 (v3) ?_
  refine z_callV (pc := 814) (rL_solve hW.2.1 hJ (G.2.2.2.2.2.2 (nI i + 1).toNatClampNeg) (G.2.2.2.2.2.2 (nI i + 2).toNatClampNeg) (G.2.2.2.2.2.2 (nI i + 3).toNatClampNeg) hq) dL_law_814 cwL_139 okX6_solve rfl (hW.2.1.k22) rfl rfl (by omega) rfl (Nat.le_of_ble_eq_true rfl) (by omega) (by omega) (fun _ _ h => h.elim) (fun v wN hN => ?_)
  obtain ⟨b, M', rfl, hJ', h21, hbr, hM', hf'⟩ := hN
  have hW' := hW.ref hM' hf'
  refine z_istore7 (pc := 817) dL_law_817 ?_
  refine z_aload_n (pc := 819) dL_law_819 rfl (by first | rfl | exact z_isr_rf _) ?_
  refine z_callVp (pc := 820) (mX6_thrown hM') dL_law_820 cwL_92 okX6_thrown rfl (hM'.k22) rfl rfl (by omega) rfl (Nat.le_of_ble_eq_true rfl) ?_
  rw [h21]
  refine z_iload (pc := 823) dL_law_823 rfl ?_
  refine z_icmp_eq (pc := 825) (tgt := 830) dL_law_825 (by decide) (fun _ => ?_) (fun hn => absurd (rfl) hn)
  refine z_iload (pc := 830) dL_law_830 rfl ?_
  refine z_if_ne (pc := 832) (tgt := 854) dL_law_832 (by decide) (fun hz => ?_) (fun hz => ?_)
  · refine z_goto (pc := 854) (tgt := 1469) dL_law_854 (by decide) ?_
    exact z_E.le (by omega) (by omega) (nx A' I' N' O' B' M' vo' vd _ _ _ hA hW' hJ')
  · refine z_aload_n (pc := 835) dL_law_835 rfl (by first | rfl | exact z_isr_rf _) ?_
    refine z_iconst_0 (pc := 836) dL_law_836 ?_
    refine z_lald (pc := 837) dL_law_837 (hW'.2.2.1) (z_v01) ?_
    refine z_iload (pc := 838) dL_law_838 rfl ?_
    refine z_if_eq (pc := 840) (tgt := 847) dL_law_840 (by decide) (fun hb => ?_) (fun hb => ?_)
    · refine z_lconst0 (pc := 847) dL_law_847 ?_
      refine z_lcmp (pc := 848) dL_law_848 ?_
      refine z_if_eq (pc := 849) (tgt := 854) dL_law_849 (by decide) (fun _ => ?_) (fun hn => absurd ((lg_cmp_eq _ _).2 ((hvo hz).trans (by rw [← hbr hz, hb]; rfl))) hn)
      refine z_goto (pc := 854) (tgt := 1469) dL_law_854 (by decide) ?_
      exact z_E.le (by omega) (by omega) (nx A' I' N' O' B' M' vo' vd _ _ _ hA hW' hJ')
    · refine z_lconst1 (pc := 843) dL_law_843 ?_
      refine z_goto (pc := 844) (tgt := 848) dL_law_844 (by decide) ?_
      refine z_lcmp (pc := 848) dL_law_848 ?_
      refine z_if_eq (pc := 849) (tgt := 854) dL_law_849 (by decide) (fun _ => ?_) (fun hn => absurd ((lg_cmp_eq _ _).2 ((hvo hz).trans (by rw [(hq.2 hz).resolve_left (fun q => hb ((hbr hz).trans q))]; rfl))) hn)
      refine z_goto (pc := 854) (tgt := 1469) dL_law_854 (by decide) ?_
      exact z_E.le (by omega) (by omega) (nx A' I' N' O' B' M' vo' vd _ _ _ hA hW' hJ')
end LAW3

