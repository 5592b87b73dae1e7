/-! an act -/
section LK
variable {G : z_G} {F : Nat → Prop} {a0 ap aw ag : Nat} {ws w : z_W} {I : z_TI} {N : z_TN} {oc : Option Nat} {B : z_TB}
theorem mL_acts (hF : F ap ∧ F aw ∧ F ag) (hne : ap ≠ aw ∧ ap ≠ ag ∧ aw ≠ ag) (hX : z_LX G F a0 ap aw ag I N oc B w) (x y : Int32) : z_M G zL_acts 10 [.ref a0, .ref ap, .ref aw, .ref ag, .int x, .int y] w 260 1600 (fun v w' => v = some (.int 1) ∧ ∃ I' N' oc' B', z_LX G F a0 ap aw ag I' N' oc' B' w') z_nx := by
  obtain ⟨ws, fp, fw, fg, hV, hwp, hww, hwg, hLI⟩ := hX
  have hn := hV.n
  have hLI2 := hLI
  obtain ⟨-, -, h1, g0, g1, g2, g3⟩ := hLI2
  have hg := (hV.at hF.2.2).trans hwg
  refine z_M.of (by decide +kernel) rfl (by intro v hv; simp only [List.mem_cons, List.not_mem_nil, or_false] at hv; rcases hv with rfl | rfl | rfl | rfl | rfl | rfl <;> first | rfl | exact z_isr_cat (z_isr_rf _)) (Nat.le_of_ble_eq_true rfl) ?_
  show z_E _ zL_acts _ _ 0 [some (.ref a0), some (.ref ap), some (.ref aw), some (.ref ag), some (.int x), some (.int y), none, none, none, none, none, none, none, none, none, none] [] _ _ _
  refine z_iload (pc := 0) dL_acts_0 rfl ?_
  refine z_bipush_20 (pc := 2) dL_acts_2 ?_
  refine z_callS (pc := 4) (mL_low x (n := 20) (by omega) (by omega)) dL_acts_4 cwL_127 okL_low rfl (by omega) rfl (Nat.le_of_ble_eq_true rfl) (by omega) (by omega) (fun _ _ h => h.elim) (fun v wN hN => ?_)
  obtain ⟨rfl, kd, hkd, rfl⟩ := hN
  refine z_istore6 (pc := 7) dL_acts_7 ?_
  refine z_aload_n (pc := 9) dL_acts_9 rfl (by first | rfl | exact z_isr_rf _) ?_
  refine z_iconst_0 (pc := 10) dL_acts_10 ?_
  refine z_iald (pc := 11) dL_acts_11 (hg) (z_v0) ?_
  refine z_iconst_2 (pc := 12) dL_acts_12 ?_
  rw [z_c0, g0]
  by_cases h2 : N 0 0 < 2
  · refine z_icmp_lt (pc := 13) (tgt := 21) dL_acts_13 (by decide) (fun _ => ?_) (fun hn => absurd ((nI_ltI (b := 2) (by omega) (by omega)).2 h2) hn)
    exact z_E.mono (by omega) (by omega) (iL_actE hF hne hV hwp hww hwg hLI)
  · refine z_icmp_lt (pc := 13) (tgt := 21) dL_acts_13 (by decide) (fun hn => absurd hn (nI_nlt (b := 2) (by omega) (by omega))) (fun _ => ?_)
    refine z_iload (pc := 16) dL_acts_16 rfl ?_
    by_cases hk0 : kd = 0
    · refine z_if_ne (pc := 18) (tgt := 97) dL_acts_18 (by decide) (fun hn => absurd (by rw [hk0]; rfl) hn) (fun _ => ?_)
      exact z_E.mono (by omega) (by omega) (iL_actE hF hne hV hwp hww hwg hLI)
    · refine z_if_ne (pc := 18) (tgt := 97) dL_acts_18 (by decide) (fun _ => ?_) (fun hn => absurd hn (nI_ne0 (by omega) (by omega)))
      refine z_aload_n (pc := 97) dL_acts_97 rfl (by first | rfl | exact z_isr_rf _) ?_
      refine z_iconst_2 (pc := 98) dL_acts_98 ?_
      refine z_iald (pc := 99) dL_acts_99 (hg) (z_v2) ?_
      refine z_iconst_1 (pc := 100) dL_acts_100 ?_
      rw [z_c2]
      cases oc with
      | none =>
        rw [show fg 2 = 0 from g2]
        refine z_icmp_ne (pc := 101) (tgt := 330) dL_acts_101 (by decide) (fun _ => ?_) (fun hn => absurd hn (by decide))
        refine z_aload_n (pc := 330) dL_acts_330 rfl (by first | rfl | exact z_isr_rf _) ?_
        refine z_iconst_2 (pc := 331) dL_acts_331 ?_
        refine z_iald (pc := 332) dL_acts_332 (hg) (z_v2) ?_
        refine z_iconst_1 (pc := 333) dL_acts_333 ?_
        rw [z_c2, show fg 2 = 0 from g2]
        refine z_icmp_ne (pc := 334) (tgt := 693) dL_acts_334 (by decide) (fun _ => ?_) (fun hn => absurd hn (by decide))
        refine z_iload (pc := 693) dL_acts_693 rfl ?_
        refine z_bipush_13 (pc := 695) dL_acts_695 ?_
        by_cases h13 : kd < 13
        · refine z_icmp_ge (pc := 697) (tgt := 859) dL_acts_697 (by decide) (fun hn => absurd hn (fun z => absurd ((nI_leI (a := 13) (by omega) (by omega)).1 z) (by omega))) (fun _ => ?_)
          exact z_E.mono (by omega) (by omega) (iL_actB hF hne hV hwp hww hwg hLI)
        · refine z_icmp_ge (pc := 697) (tgt := 859) dL_acts_697 (by decide) (fun _ => ?_) (fun hn => absurd ((nI_leI (a := 13) (by omega) (by omega)).2 (by omega)) hn)
          exact z_E.mono (by omega) (by omega) (iL_actS hF hne hV hwp hww hwg hLI)
      | some g =>
        rw [show fg 2 = 1 from g2]
        refine z_icmp_ne (pc := 101) (tgt := 330) dL_acts_101 (by decide) (fun hn => absurd (rfl) hn) (fun _ => ?_)
        refine z_iload (pc := 104) dL_acts_104 rfl ?_
        refine z_bipush_12 (pc := 106) dL_acts_106 ?_
        by_cases h12 : kd < 12
        · refine z_icmp_ge (pc := 108) (tgt := 330) dL_acts_108 (by decide) (fun hn => absurd hn (fun z => absurd ((nI_leI (a := 12) (by omega) (by omega)).1 z) (by omega))) (fun _ => ?_)
          obtain ⟨fs0, hk0'⟩ := hV.k0
          obtain ⟨-, -, -, -, -, ⟨here, hh, eh⟩, -⟩ := hV.g rfl
          refine z_aload_n (pc := 111) dL_acts_111 rfl (by first | rfl | exact z_isr_rf _) ?_
          refine z_callVp (pc := 112) (vX_position hV) dL_acts_112 cwL_133 okX5_position rfl (hk0') rfl rfl (by omega) rfl (Nat.le_of_ble_eq_true rfl) ?_
          rw [show z_po I (some g) = nI here from eh]
          refine z_istore7 (pc := 115) dL_acts_115 ?_
          refine z_iload (pc := 117) dL_acts_117 rfl ?_
          refine z_iload (pc := 119) dL_acts_119 rfl ?_
          refine z_bipush_7 (pc := 121) dL_acts_121 ?_
          refine z_ishr (pc := 123) dL_acts_123 ?_
          refine z_iconst_3 (pc := 124) dL_acts_124 ?_
          refine z_callS (pc := 125) (mL_low (x >>> (7 &&& 31)) (n := 3) (by omega) (by omega)) dL_acts_125 cwL_127 okL_low rfl (by omega) rfl (Nat.le_of_ble_eq_true rfl) (by omega) (by omega) (fun _ _ h => h.elim) (fun v wN hN => ?_)
          obtain ⟨rfl, j, hj, rfl⟩ := hN
          refine z_if_ne (pc := 128) (tgt := 135) dL_acts_128 (by decide) (fun hc => ?_) (fun hc => ?_)
          · refine z_iconst_2 (pc := 135) dL_acts_135 ?_
            refine z_callS (pc := 136) (mL_low y (n := 2) (by omega) (by omega)) dL_acts_136 cwL_127 okL_low rfl (by omega) rfl (Nat.le_of_ble_eq_true rfl) (by omega) (by omega) (fun _ _ h => h.elim) (fun v wN hN => ?_)
            obtain ⟨rfl, its, hi, rfl⟩ := hN
            exact z_E.mono (by omega) (by omega) (iL_actM hF hne hV hwp hww hwg hLI eh hh (by omega))
          · refine z_iconst_4 (pc := 131) dL_acts_131 ?_
            refine z_goto (pc := 132) (tgt := 136) dL_acts_132 (by decide) ?_
            refine z_callS (pc := 136) (mL_low y (n := 4) (by omega) (by omega)) dL_acts_136 cwL_127 okL_low rfl (by omega) rfl (Nat.le_of_ble_eq_true rfl) (by omega) (by omega) (fun _ _ h => h.elim) (fun v wN hN => ?_)
            obtain ⟨rfl, its, hi, rfl⟩ := hN
            exact z_E.mono (by omega) (by omega) (iL_actM hF hne hV hwp hww hwg hLI eh hh (by omega))
        · refine z_icmp_ge (pc := 108) (tgt := 330) dL_acts_108 (by decide) (fun _ => ?_) (fun hn => absurd ((nI_leI (a := 12) (by omega) (by omega)).2 (by omega)) hn)
          refine z_aload_n (pc := 330) dL_acts_330 rfl (by first | rfl | exact z_isr_rf _) ?_
          refine z_iconst_2 (pc := 331) dL_acts_331 ?_
          refine z_iald (pc := 332) dL_acts_332 (hg) (z_v2) ?_
          refine z_iconst_1 (pc := 333) dL_acts_333 ?_
          rw [z_c2, show fg 2 = 1 from g2]
          refine z_icmp_ne (pc := 334) (tgt := 693) dL_acts_334 (by decide) (fun hn => absurd (rfl) hn) (fun _ => ?_)
          exact z_E.mono (by omega) (by omega) (iL_actF hF hne hV hwp hww hwg hLI)
end LK

