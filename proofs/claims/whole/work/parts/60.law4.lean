/-! .. more of them -/
section LAW4
variable {G : z_G} {A : z_TA} {I : z_TI} {N : z_TN} {O : z_TO} {B : z_TB} {A6 : z_TA} {M : z_TM} {qo qd : Nat} {vo : Nat → Int64} {vd : Nat → UInt64} {w : z_W} {i k n : Nat} {Z : z_Gq}
theorem kL_offered (h : z_LW G A I N O B A6 M qo qd vo vd w) (hJ : z_J I N O B M) (hL : G.2.2.2.2.2.1 ≤ 2048) (hi : i + 4 ≤ G.2.2.2.2.2.1) (hk : 24 ≤ k) (hn : 84 ≤ n) (nx : z_nxt G A A6 qo qd i Z (k - 24) (n - 84)) (x6 x7 : Option Value) : z_E G zL_law 9 Z 857 [some (.ref G.2.2.2.2.1), some (.ref (A 0 0 0)), some (.ref (A6 22 0 0)), some (.ref qo), some (.ref qd), some (.int (nI i)), x6, x7] [] w k n := by
  have v1 : vp_in (nI i + 1) G.2.2.2.2.2.1 := by rw [show (1 : Int32) = nI 1 from rfl, nI_add]; exact vp_in_nI (by omega) (by omega)
  refine z_aload_n (pc := 857) dL_law_857 rfl (by first | rfl | exact z_isr_rf _) ?_
  refine z_aload_n (pc := 858) dL_law_858 rfl (by first | rfl | exact z_isr_rf _) ?_
  refine z_iload (pc := 859) dL_law_859 rfl ?_
  refine z_iconst_1 (pc := 861) dL_law_861 ?_
  refine z_iadd (pc := 862) dL_law_862 ?_
  refine z_sld (pc := 863) dL_law_863 (v1) ?_
  refine z_aload_n (pc := 864) dL_law_864 rfl (by first | rfl | exact z_isr_rf _) ?_
  refine z_callSX (pc := 865) (wL_offered h hJ (G.2.2.2.2.2.2 (nI i + 1).toNatClampNeg)) dL_law_865 cwL_140 okL_offered rfl (by omega) rfl (Nat.le_of_ble_eq_true rfl) (by omega) (by omega) (fun v wN hN => ?_)
  obtain ⟨kk, r, A', I', N', O', B', vo', rfl, hq, hvo, hA, hW⟩ := hN
  refine z_istore6 (pc := 868) dL_law_868 ?_
  refine z_aload_n (pc := 870) dL_law_870 rfl (by first | rfl | exact z_isr_rf _) ?_
  refine z_aload_n (pc := 871) dL_law_871 rfl (by first | rfl | exact z_isr_rf _) ?_
  refine z_iload (pc := 872) dL_law_872 rfl ?_
  refine z_iconst_1 (pc := 874) dL_law_874 ?_
  refine z_iadd (pc := 875) dL_law_875 ?_
  refine z_sld (pc := 876) dL_law_876 (v1) ?_
  refine z_callV (pc := 877) (rL_offered hW.2.1 hJ (G.2.2.2.2.2.2 (nI i + 1).toNatClampNeg) hq) dL_law_877 cwL_142 okX6_offered rfl (hW.2.1.k22) rfl rfl (by omega) rfl (Nat.le_of_ble_eq_true rfl) (by omega) (by omega) (fun _ _ h => h.elim) (fun v wN hN => ?_)
  obtain ⟨b, M', rfl, hJ', h21, hbr, hM', hf'⟩ := hN
  have hW' := hW.ref hM' hf'
  refine z_istore7 (pc := 880) dL_law_880 ?_
  refine z_aload_n (pc := 882) dL_law_882 rfl (by first | rfl | exact z_isr_rf _) ?_
  refine z_callVp (pc := 883) (mX6_thrown hM') dL_law_883 cwL_92 okX6_thrown rfl (hM'.k22) rfl rfl (by omega) rfl (Nat.le_of_ble_eq_true rfl) ?_
  rw [h21]
  refine z_iload (pc := 886) dL_law_886 rfl ?_
  refine z_icmp_eq (pc := 888) (tgt := 893) dL_law_888 (by decide) (fun _ => ?_) (fun hn => absurd (rfl) hn)
  refine z_iload (pc := 893) dL_law_893 rfl ?_
  refine z_if_ne (pc := 895) (tgt := 910) dL_law_895 (by decide) (fun hz => ?_) (fun hz => ?_)
  · refine z_goto (pc := 910) (tgt := 1469) dL_law_910 (by decide) ?_
    exact z_E.le (by omega) (by omega) (nx A' I' N' O' B' M' vo' vd _ _ _ hA hW' hJ')
  · refine z_aload_n (pc := 898) dL_law_898 rfl (by first | rfl | exact z_isr_rf _) ?_
    refine z_iconst_0 (pc := 899) dL_law_899 ?_
    refine z_lald (pc := 900) dL_law_900 (hW'.2.2.1) (z_v01) ?_
    refine z_iload (pc := 901) dL_law_901 rfl ?_
    refine z_i2l (pc := 903) dL_law_903 ?_
    refine z_lcmp (pc := 904) dL_law_904 ?_
    refine z_if_eq (pc := 905) (tgt := 910) dL_law_905 (by decide) (fun _ => ?_) (fun hn => absurd ((lg_cmp_eq _ _).2 ((hvo hz).trans (by rw [hbr hz]))) hn)
    refine z_goto (pc := 910) (tgt := 1469) dL_law_910 (by decide) ?_
    exact z_E.le (by omega) (by omega) (nx A' I' N' O' B' M' vo' vd _ _ _ hA hW' hJ')
theorem kL_rating (h : z_LW G A I N O B A6 M qo qd vo vd w) (hJ : z_J I N O B M) (hL : G.2.2.2.2.2.1 ≤ 2048) (hi : i + 4 ≤ G.2.2.2.2.2.1) (hk : 24 ≤ k) (hn : 84 ≤ n) (nx : z_nxt G A A6 qo qd i Z (k - 24) (n - 84)) (x6 x7 : Option Value) : z_E G zL_law 9 Z 913 [some (.ref G.2.2.2.2.1), some (.ref (A 0 0 0)), some (.ref (A6 22 0 0)), some (.ref qo), some (.ref qd), some (.int (nI i)), x6, x7] [] w k n := by
  have v1 : vp_in (nI i + 1) G.2.2.2.2.2.1 := by rw [show (1 : Int32) = nI 1 from rfl, nI_add]; exact vp_in_nI (by omega) (by omega)
  have v2 : vp_in (nI i + 2) G.2.2.2.2.2.1 := by rw [show (2 : Int32) = nI 2 from rfl, nI_add]; exact vp_in_nI (by omega) (by omega)
  refine z_aload_n (pc := 913) dL_law_913 rfl (by first | rfl | exact z_isr_rf _) ?_
  refine z_aload_n (pc := 914) dL_law_914 rfl (by first | rfl | exact z_isr_rf _) ?_
  refine z_iload (pc := 915) dL_law_915 rfl ?_
  refine z_iconst_1 (pc := 917) dL_law_917 ?_
  refine z_iadd (pc := 918) dL_law_918 ?_
  refine z_sld (pc := 919) dL_law_919 (v1) ?_
  refine z_aload_n (pc := 920) dL_law_920 rfl (by first | rfl | exact z_isr_rf _) ?_
  refine z_iload (pc := 921) dL_law_921 rfl ?_
  refine z_iconst_2 (pc := 923) dL_law_923 ?_
  refine z_iadd (pc := 924) dL_law_924 ?_
  refine z_sld (pc := 925) dL_law_925 (v2) ?_
  refine z_aload_n (pc := 926) dL_law_926 rfl (by first | rfl | exact z_isr_rf _) ?_
  refine z_callSX (pc := 927) (wL_rating h hJ (G.2.2.2.2.2.2 (nI i + 1).toNatClampNeg) (G.2.2.2.2.2.2 (nI i + 2).toNatClampNeg)) dL_law_927 cwL_143 okL_rating rfl (by omega) rfl (Nat.le_of_ble_eq_true rfl) (by omega) (by omega) (fun v wN hN => ?_)
  obtain ⟨kk, r, A', I', N', O', B', vo', rfl, hq, hvo, hA, hW⟩ := hN
  refine z_istore6 (pc := 930) dL_law_930 ?_
  refine z_aload_n (pc := 932) dL_law_932 rfl (by first | rfl | exact z_isr_rf _) ?_
  refine z_aload_n (pc := 933) dL_law_933 rfl (by first | rfl | exact z_isr_rf _) ?_
  refine z_iload (pc := 934) dL_law_934 rfl ?_
  refine z_iconst_1 (pc := 936) dL_law_936 ?_
  refine z_iadd (pc := 937) dL_law_937 ?_
  refine z_sld (pc := 938) dL_law_938 (v1) ?_
  refine z_aload_n (pc := 939) dL_law_939 rfl (by first | rfl | exact z_isr_rf _) ?_
  refine z_iload (pc := 940) dL_law_940 rfl ?_
  refine z_iconst_2 (pc := 942) dL_law_942 ?_
  refine z_iadd (pc := 943) dL_law_943 ?_
  refine z_sld (pc := 944) dL_law_944 (v2) ?_
  refine z_callV (pc := 945) (rL_rating hW.2.1 hJ (G.2.2.2.2.2.2 (nI i + 1).toNatClampNeg) (G.2.2.2.2.2.2 (nI i + 2).toNatClampNeg) hq) dL_law_945 cwL_145 okX6_rating rfl (hW.2.1.k22) rfl rfl (by omega) rfl (Nat.le_of_ble_eq_true rfl) (by omega) (by omega) (fun _ _ h => h.elim) (fun v wN hN => ?_)
  obtain ⟨b, M', rfl, hJ', h21, hbr, hM', hf'⟩ := hN
  have hW' := hW.ref hM' hf'
  refine z_istore7 (pc := 948) dL_law_948 ?_
  refine z_aload_n (pc := 950) dL_law_950 rfl (by first | rfl | exact z_isr_rf _) ?_
  refine z_callVp (pc := 951) (mX6_thrown hM') dL_law_951 cwL_92 okX6_thrown rfl (hM'.k22) rfl rfl (by omega) rfl (Nat.le_of_ble_eq_true rfl) ?_
  rw [h21]
  refine z_iload (pc := 954) dL_law_954 rfl ?_
  refine z_icmp_eq (pc := 956) (tgt := 961) dL_law_956 (by decide) (fun _ => ?_) (fun hn => absurd (rfl) hn)
  refine z_iload (pc := 961) dL_law_961 rfl ?_
  refine z_if_ne (pc := 963) (tgt := 978) dL_law_963 (by decide) (fun hz => ?_) (fun hz => ?_)
  · refine z_goto (pc := 978) (tgt := 1469) dL_law_978 (by decide) ?_
    exact z_E.le (by omega) (by omega) (nx A' I' N' O' B' M' vo' vd _ _ _ hA hW' hJ')
  · refine z_aload_n (pc := 966) dL_law_966 rfl (by first | rfl | exact z_isr_rf _) ?_
    refine z_iconst_0 (pc := 967) dL_law_967 ?_
    refine z_lald (pc := 968) dL_law_968 (hW'.2.2.1) (z_v01) ?_
    refine z_iload (pc := 969) dL_law_969 rfl ?_
    refine z_i2l (pc := 971) dL_law_971 ?_
    refine z_lcmp (pc := 972) dL_law_972 ?_
    refine z_if_eq (pc := 973) (tgt := 978) dL_law_973 (by decide) (fun _ => ?_) (fun hn => absurd ((lg_cmp_eq _ _).2 ((hvo hz).trans (by rw [hbr hz]))) hn)
    refine z_goto (pc := 978) (tgt := 1469) dL_law_978 (by decide) ?_
    exact z_E.le (by omega) (by omega) (nx A' I' N' O' B' M' vo' vd _ _ _ hA hW' hJ')
theorem kL_results (h : z_LW G A I N O B A6 M qo qd vo vd w) (hJ : z_J I N O B M) (hL : G.2.2.2.2.2.1 ≤ 2048) (hi : i + 4 ≤ G.2.2.2.2.2.1) (hk : 24 ≤ k) (hn : 84 ≤ n) (nx : z_nxt G A A6 qo qd i Z (k - 24) (n - 84)) (x6 x7 : Option Value) : z_E G zL_law 9 Z 981 [some (.ref G.2.2.2.2.1), some (.ref (A 0 0 0)), some (.ref (A6 22 0 0)), some (.ref qo), some (.ref qd), some (.int (nI i)), x6, x7] [] w k n := by
  have v1 : vp_in (nI i + 1) G.2.2.2.2.2.1 := by rw [show (1 : Int32) = nI 1 from rfl, nI_add]; exact vp_in_nI (by omega) (by omega)
  have v2 : vp_in (nI i + 2) G.2.2.2.2.2.1 := by rw [show (2 : Int32) = nI 2 from rfl, nI_add]; exact vp_in_nI (by omega) (by omega)
  refine z_aload_n (pc := 981) dL_law_981 rfl (by first | rfl | exact z_isr_rf _) ?_
  refine z_aload_n (pc := 982) dL_law_982 rfl (by first | rfl | exact z_isr_rf _) ?_
  refine z_iload (pc := 983) dL_law_983 rfl ?_
  refine z_iconst_1 (pc := 985) dL_law_985 ?_
  refine z_iadd (pc := 986) dL_law_986 ?_
  refine z_sld (pc := 987) dL_law_987 (v1) ?_
  refine z_aload_n (pc := 988) dL_law_988 rfl (by first | rfl | exact z_isr_rf _) ?_
  refine z_iload (pc := 989) dL_law_989 rfl ?_
  refine z_iconst_2 (pc := 991) dL_law_991 ?_
  refine z_iadd (pc := 992) dL_law_992 ?_
  refine z_sld (pc := 993) dL_law_993 (v2) ?_
  refine z_aload_n (pc := 994) dL_law_994 rfl (by first | rfl | exact z_isr_rf _) ?_
  refine z_callSX (pc := 995) (wL_results h hJ (G.2.2.2.2.2.2 (nI i + 1).toNatClampNeg) (G.2.2.2.2.2.2 (nI i + 2).toNatClampNeg)) dL_law_995 cwL_146 okL_results rfl (by omega) rfl (Nat.le_of_ble_eq_true rfl) (by omega) (by omega) (fun v wN hN => ?_)
  obtain ⟨kk, r, A', I', N', O', B', vo', rfl, hq, hvo, hA, hW⟩ := hN
  refine z_istore6 (pc := 998) dL_law_998 ?_
  refine z_aload_n (pc := 1000) dL_law_1000 rfl (by first | rfl | exact z_isr_rf _) ?_
  refine z_aload_n (pc := 1001) dL_law_1001 rfl (by first | rfl | exact z_isr_rf _) ?_
  refine z_iload (pc := 1002) dL_law_1002 rfl ?_
  refine z_iconst_1 (pc := 1004) dL_law_1004 ?_
  refine z_iadd (pc := 1005) dL_law_1005 ?_
  refine z_sld (pc := 1006) dL_law_1006 (v1) ?_
  refine z_aload_n (pc := 1007) dL_law_1007 rfl (by first | rfl | exact z_isr_rf _) ?_
  refine z_iload (pc := 1008) dL_law_1008 rfl ?_
  refine z_iconst_2 (pc := 1010) dL_law_1010 ?_
  refine z_iadd (pc := 1011) dL_law_1011 ?_
  refine z_sld (pc := 1012) dL_law_1012 (v2) ?_
  refine z_callV (pc := 1013) (rL_results hW.2.1 hJ (G.2.2.2.2.2.2 (nI i + 1).toNatClampNeg) (G.2.2.2.2.2.2 (nI i + 2).toNatClampNeg) hq) dL_law_1013 cwL_148 okX6_results rfl (hW.2.1.k22) rfl rfl (by omega) rfl (Nat.le_of_ble_eq_true rfl) (by omega) (by omega) (fun _ _ h => h.elim) (fun v wN hN => ?_)
  obtain ⟨b, M', rfl, hJ', h21, hbr, hM', hf'⟩ := hN
  have hW' := hW.ref hM' hf'
  refine z_istore7 (pc := 1016) dL_law_1016 ?_
  refine z_aload_n (pc := 1018) dL_law_1018 rfl (by first | rfl | exact z_isr_rf _) ?_
  refine z_callVp (pc := 1019) (mX6_thrown hM') dL_law_1019 cwL_92 okX6_thrown rfl (hM'.k22) rfl rfl (by omega) rfl (Nat.le_of_ble_eq_true rfl) ?_
  rw [h21]
  refine z_iload (pc := 1022) dL_law_1022 rfl ?_
  refine z_icmp_eq (pc := 1024) (tgt := 1029) dL_law_1024 (by decide) (fun _ => ?_) (fun hn => absurd (rfl) hn)
  refine z_iload (pc := 1029) dL_law_1029 rfl ?_
  refine z_if_ne (pc := 1031) (tgt := 1046) dL_law_1031 (by decide) (fun hz => ?_) (fun hz => ?_)
  · refine z_goto (pc := 1046) (tgt := 1469) dL_law_1046 (by decide) ?_
    exact z_E.le (by omega) (by omega) (nx A' I' N' O' B' M' vo' vd _ _ _ hA hW' hJ')
  · refine z_aload_n (pc := 1034) dL_law_1034 rfl (by first | rfl | exact z_isr_rf _) ?_
    refine z_iconst_0 (pc := 1035) dL_law_1035 ?_
    refine z_lald (pc := 1036) dL_law_1036 (hW'.2.2.1) (z_v01) ?_
    refine z_iload (pc := 1037) dL_law_1037 rfl ?_
    refine z_i2l (pc := 1039) dL_law_1039 ?_
    refine z_lcmp (pc := 1040) dL_law_1040 ?_
    refine z_if_eq (pc := 1041) (tgt := 1046) dL_law_1041 (by decide) (fun _ => ?_) (fun hn => absurd ((lg_cmp_eq _ _).2 ((hvo hz).trans (by rw [hbr hz]))) hn)
    refine z_goto (pc := 1046) (tgt := 1469) dL_law_1046 (by decide) ?_
    exact z_E.le (by omega) (by omega) (nx A' I' N' O' B' M' vo' vd _ _ _ hA hW' hJ')
theorem kL_points (h : z_LW G A I N O B A6 M qo qd vo vd w) (hJ : z_J I N O B M) (hL : G.2.2.2.2.2.1 ≤ 2048) (hi : i + 4 ≤ G.2.2.2.2.2.1) (hk : 24 ≤ k) (hn : 84 ≤ n) (nx : z_nxt G A A6 qo qd i Z (k - 24) (n - 84)) (x6 x7 : Option Value) : z_E G zL_law 9 Z 1049 [some (.ref G.2.2.2.2.1), some (.ref (A 0 0 0)), some (.ref (A6 22 0 0)), some (.ref qo), some (.ref qd), some (.int (nI i)), x6, x7] [] w k n := by
  have v1 : vp_in (nI i + 1) G.2.2.2.2.2.1 := by rw [show (1 : Int32) = nI 1 from rfl, nI_add]; exact vp_in_nI (by omega) (by omega)
  have v2 : vp_in (nI i + 2) G.2.2.2.2.2.1 := by rw [show (2 : Int32) = nI 2 from rfl, nI_add]; exact vp_in_nI (by omega) (by omega)
  refine z_aload_n (pc := 1049) dL_law_1049 rfl (by first | rfl | exact z_isr_rf _) ?_
  refine z_aload_n (pc := 1050) dL_law_1050 rfl (by first | rfl | exact z_isr_rf _) ?_
  refine z_iload (pc := 1051) dL_law_1051 rfl ?_
  refine z_iconst_1 (pc := 1053) dL_law_1053 ?_
  refine z_iadd (pc := 1054) dL_law_1054 ?_
  refine z_sld (pc := 1055) dL_law_1055 (v1) ?_
  refine z_aload_n (pc := 1056) dL_law_1056 rfl (by first | rfl | exact z_isr_rf _) ?_
  refine z_iload (pc := 1057) dL_law_1057 rfl ?_
  refine z_iconst_2 (pc := 1059) dL_law_1059 ?_
  refine z_iadd (pc := 1060) dL_law_1060 ?_
  refine z_sld (pc := 1061) dL_law_1061 (v2) ?_
  refine z_aload_n (pc := 1062) dL_law_1062 rfl (by first | rfl | exact z_isr_rf _) ?_
  refine z_callSX (pc := 1063) (wL_points h hJ (G.2.2.2.2.2.2 (nI i + 1).toNatClampNeg) (G.2.2.2.2.2.2 (nI i + 2).toNatClampNeg)) dL_law_1063 cwL_149 okL_points rfl (by omega) rfl (Nat.le_of_ble_eq_true rfl) (by omega) (by omega) (fun v wN hN => ?_)
  obtain ⟨kk, r, A', I', N', O', B', vo', rfl, hq, hvo, hA, hW⟩ := hN
  refine z_istore6 (pc := 1066) dL_law_1066 ?_
  refine z_aload_n (pc := 1068) dL_law_1068 rfl (by first | rfl | exact z_isr_rf _) ?_
  refine z_aload_n (pc := 1069) dL_law_1069 rfl (by first | rfl | exact z_isr_rf _) ?_
  refine z_iload (pc := 1070) dL_law_1070 rfl ?_
  refine z_iconst_1 (pc := 1072) dL_law_1072 ?_
  refine z_iadd (pc := 1073) dL_law_1073 ?_
  refine z_sld (pc := 1074) dL_law_1074 (v1) ?_
  refine z_aload_n (pc := 1075) dL_law_1075 rfl (by first | rfl | exact z_isr_rf _) ?_
  refine z_iload (pc := 1076) dL_law_1076 rfl ?_
  refine z_iconst_2 (pc := 1078) dL_law_1078 ?_
  refine z_iadd (pc := 1079) dL_law_1079 ?_
  refine z_sld (pc := 1080) dL_law_1080 (v2) ?_
  refine z_callV (pc := 1081) (rL_points hW.2.1 hJ (G.2.2.2.2.2.2 (nI i + 1).toNatClampNeg) (G.2.2.2.2.2.2 (nI i + 2).toNatClampNeg) hq) dL_law_1081 cwL_151 okX6_points rfl (hW.2.1.k22) rfl rfl (by omega) rfl (Nat.le_of_ble_eq_true rfl) (by omega) (by omega) (fun _ _ h => h.elim) (fun v wN hN => ?_)
  obtain ⟨b, M', rfl, hJ', h21, hbr, hM', hf'⟩ := hN
  have hW' := hW.ref hM' hf'
  refine z_istore7 (pc := 1084) dL_law_1084 ?_
  refine z_aload_n (pc := 1086) dL_law_1086 rfl (by first | rfl | exact z_isr_rf _) ?_
  refine z_callVp (pc := 1087) (mX6_thrown hM') dL_law_1087 cwL_92 okX6_thrown rfl (hM'.k22) rfl rfl (by omega) rfl (Nat.le_of_ble_eq_true rfl) ?_
  rw [h21]
  refine z_iload (pc := 1090) dL_law_1090 rfl ?_
  refine z_icmp_eq (pc := 1092) (tgt := 1097) dL_law_1092 (by decide) (fun _ => ?_) (fun hn => absurd (rfl) hn)
  refine z_iload (pc := 1097) dL_law_1097 rfl ?_
  refine z_if_ne (pc := 1099) (tgt := 1114) dL_law_1099 (by decide) (fun hz => ?_) (fun hz => ?_)
  · refine z_goto (pc := 1114) (tgt := 1469) dL_law_1114 (by decide) ?_
    exact z_E.le (by omega) (by omega) (nx A' I' N' O' B' M' vo' vd _ _ _ hA hW' hJ')
  · refine z_aload_n (pc := 1102) dL_law_1102 rfl (by first | rfl | exact z_isr_rf _) ?_
    refine z_iconst_0 (pc := 1103) dL_law_1103 ?_
    refine z_lald (pc := 1104) dL_law_1104 (hW'.2.2.1) (z_v01) ?_
    refine z_iload (pc := 1105) dL_law_1105 rfl ?_
    refine z_i2l (pc := 1107) dL_law_1107 ?_
    refine z_lcmp (pc := 1108) dL_law_1108 ?_
    refine z_if_eq (pc := 1109) (tgt := 1114) dL_law_1109 (by decide) (fun _ => ?_) (fun hn => absurd ((lg_cmp_eq _ _).2 ((hvo hz).trans (by rw [hbr hz]))) hn)
    refine z_goto (pc := 1114) (tgt := 1469) dL_law_1114 (by decide) ?_
    exact z_E.le (by omega) (by omega) (nx A' I' N' O' B' M' vo' vd _ _ _ hA hW' hJ')
theorem kL_isDropped (h : z_LW G A I N O B A6 M qo qd vo vd w) (hJ : z_J I N O B M) (hL : G.2.2.2.2.2.1 ≤ 2048) (hi : i + 4 ≤ G.2.2.2.2.2.1) (hk : 24 ≤ k) (hn : 84 ≤ n) (nx : z_nxt G A A6 qo qd i Z (k - 24) (n - 84)) (x6 x7 : Option Value) : z_E G zL_law 9 Z 1117 [some (.ref G.2.2.2.2.1), some (.ref (A 0 0 0)), some (.ref (A6 22 0 0)), some (.ref qo), some (.ref qd), some (.int (nI i)), x6, x7] [] w k n := by
  have v1 : vp_in (nI i + 1) G.2.2.2.2.2.1 := by rw [show (1 : Int32) = nI 1 from rfl, nI_add]; exact vp_in_nI (by omega) (by omega)
  have v2 : vp_in (nI i + 2) G.2.2.2.2.2.1 := by rw [show (2 : Int32) = nI 2 from rfl, nI_add]; exact vp_in_nI (by omega) (by omega)
  refine z_aload_n (pc := 1117) dL_law_1117 rfl (by first | rfl | exact z_isr_rf _) ?_
  refine z_aload_n (pc := 1118) dL_law_1118 rfl (by first | rfl | exact z_isr_rf _) ?_
  refine z_iload (pc := 1119) dL_law_1119 rfl ?_
  refine z_iconst_1 (pc := 1121) dL_law_1121 ?_
  refine z_iadd (pc := 1122) dL_law_1122 ?_
  refine z_sld (pc := 1123) dL_law_1123 (v1) ?_
  refine z_aload_n (pc := 1124) dL_law_1124 rfl (by first | rfl | exact z_isr_rf _) ?_
  refine z_iload (pc := 1125) dL_law_1125 rfl ?_
  refine z_iconst_2 (pc := 1127) dL_law_1127 ?_
  refine z_iadd (pc := 1128) dL_law_1128 ?_
  refine z_sld (pc := 1129) dL_law_1129 (v2) ?_
  refine z_aload_n (pc := 1130) dL_law_1130 rfl (by first | rfl | exact z_isr_rf _) ?_
  refine z_callSX (pc := 1131) (wL_isDropped h hJ (G.2.2.2.2.2.2 (nI i + 1).toNatClampNeg) (G.2.2.2.2.2.2 (nI i + 2).toNatClampNeg)) dL_law_1131 cwL_152 okL_isDropped rfl (by omega) rfl (Nat.le_of_ble_eq_true rfl) (by omega) (by omega) (fun v wN hN => ?_)
  obtain ⟨kk, r, A', I', N', O', B', vo', rfl, hq, hvo, hA, hW⟩ := hN
  refine z_istore6 (pc := 1134) dL_law_1134 ?_
  refine z_aload_n (pc := 1136) dL_law_1136 rfl (by first | rfl | exact z_isr_rf _) ?_
  refine z_aload_n (pc := 1137) dL_law_1137 rfl (by first | rfl | exact z_isr_rf _) ?_
  refine z_iload (pc := 1138) dL_law_1138 rfl ?_
  refine z_iconst_1 (pc := 1140) dL_law_1140 ?_
  refine z_iadd (pc := 1141) dL_law_1141 ?_
  refine z_sld (pc := 1142) dL_law_1142 (v1) ?_
  refine z_aload_n (pc := 1143) dL_law_1143 rfl (by first | rfl | exact z_isr_rf _) ?_
  refine z_iload (pc := 1144) dL_law_1144 rfl ?_
  refine z_iconst_2 (pc := 1146) dL_law_1146 ?_
  refine z_iadd (pc := 1147) dL_law_1147 ?_
  refine z_sld (pc := 1148) dL_law_1148 (v2) ?_
  refine z_callV (pc := 1149) (rL_isDropped hW.2.1 hJ (G.2.2.2.2.2.2 (nI i + 1).toNatClampNeg) (G.2.2.2.2.2.2 (nI i + 2).toNatClampNeg) hq) dL_law_1149 cwL_154 okX6_isDropped rfl (hW.2.1.k22) rfl rfl (by omega) rfl (Nat.le_of_ble_eq_true rfl) (by omega) (by omega) (fun _ _ h => h.elim) (fun v wN hN => ?_)
  obtain ⟨b, M', rfl, hJ', h21, hbr, hM', hf'⟩ := hN
  have hW' := hW.ref hM' hf'
  refine z_istore7 (pc := 1152) dL_law_1152 ?_
  refine z_aload_n (pc := 1154) dL_law_1154 rfl (by first | rfl | exact z_isr_rf _) ?_
  refine z_callVp (pc := 1155) (mX6_thrown hM') dL_law_1155 cwL_92 okX6_thrown rfl (hM'.k22) rfl rfl (by omega) rfl (Nat.le_of_ble_eq_true rfl) ?_
  rw [h21]
  refine z_iload (pc := 1158) dL_law_1158 rfl ?_
  refine z_icmp_eq (pc := 1160) (tgt := 1165) dL_law_1160 (by decide) (fun _ => ?_) (fun hn => absurd (rfl) hn)
  refine z_iload (pc := 1165) dL_law_1165 rfl ?_
  refine z_if_ne (pc := 1167) (tgt := 1189) dL_law_1167 (by decide) (fun hz => ?_) (fun hz => ?_)
  · refine z_goto (pc := 1189) (tgt := 1469) dL_law_1189 (by decide) ?_
    exact z_E.le (by omega) (by omega) (nx A' I' N' O' B' M' vo' vd _ _ _ hA hW' hJ')
  · refine z_aload_n (pc := 1170) dL_law_1170 rfl (by first | rfl | exact z_isr_rf _) ?_
    refine z_iconst_0 (pc := 1171) dL_law_1171 ?_
    refine z_lald (pc := 1172) dL_law_1172 (hW'.2.2.1) (z_v01) ?_
    refine z_iload (pc := 1173) dL_law_1173 rfl ?_
    refine z_if_eq (pc := 1175) (tgt := 1182) dL_law_1175 (by decide) (fun hb => ?_) (fun hb => ?_)
    · refine z_lconst0 (pc := 1182) dL_law_1182 ?_
      refine z_lcmp (pc := 1183) dL_law_1183 ?_
      refine z_if_eq (pc := 1184) (tgt := 1189) dL_law_1184 (by decide) (fun _ => ?_) (fun hn => absurd ((lg_cmp_eq _ _).2 ((hvo hz).trans (by rw [← hbr hz, hb]; rfl))) hn)
      refine z_goto (pc := 1189) (tgt := 1469) dL_law_1189 (by decide) ?_
      exact z_E.le (by omega) (by omega) (nx A' I' N' O' B' M' vo' vd _ _ _ hA hW' hJ')
    · refine z_lconst1 (pc := 1178) dL_law_1178 ?_
      refine z_goto (pc := 1179) (tgt := 1183) dL_law_1179 (by decide) ?_
      refine z_lcmp (pc := 1183) dL_law_1183 ?_
      refine z_if_eq (pc := 1184) (tgt := 1189) dL_law_1184 (by decide) (fun _ => ?_) (fun hn => absurd ((lg_cmp_eq _ _).2 ((hvo hz).trans (by rw [(hq.2 hz).resolve_left (fun q => hb ((hbr hz).trans q))]; rfl))) hn)
      refine z_goto (pc := 1189) (tgt := 1469) dL_law_1189 (by decide) ?_
      exact z_E.le (by omega) (by omega) (nx A' I' N' O' B' M' vo' vd _ _ _ hA hW' hJ')
end LAW4

