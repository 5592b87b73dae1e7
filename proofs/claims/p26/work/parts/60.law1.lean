/-! the law's small methods; a position's words -/
section LA
variable {G : z_G} {F : Nat → Prop} {a0 : Nat} {ws w : z_W} {I : z_TI} {N : z_TN} {oc : Option Nat} {B : z_TB}
theorem mL_at (hL : G.2.2.2.2.2.1 ≤ 260) {j : Nat} (hj : j < 1000) : z_M G zL_at 0 [.ref G.2.2.2.2.1, .int (nI j)] w 0 0 (fun v w' => w' = w ∧ ∃ x, v = some (.int x)) z_nx := by
  refine z_M.of (by decide +kernel) rfl (by intro v hv; simp only [List.mem_cons, List.not_mem_nil, or_false] at hv; rcases hv with rfl | rfl <;> first | rfl | exact z_isr_cat (z_isr_rf _)) (Nat.le_of_ble_eq_true rfl) ?_
  show z_E _ zL_at _ _ 0 [some (.ref G.2.2.2.2.1), some (.int (nI j))] [] _ _ _
  refine z_iload_n (pc := 0) dL_at_0 rfl ?_
  refine z_aload_n (pc := 1) dL_at_1 rfl (by first | rfl | exact z_isr_rf _) ?_
  refine z_slen (pc := 2) dL_at_2 ?_
  by_cases hc : j < G.2.2.2.2.2.1
  · refine z_icmp_ge (pc := 3) (tgt := 12) dL_at_3 (by decide) (fun hn => absurd hn (nI_ge hc (by omega))) (fun _ => ?_)
    refine z_aload_n (pc := 6) dL_at_6 rfl (by first | rfl | exact z_isr_rf _) ?_
    refine z_iload_n (pc := 7) dL_at_7 rfl ?_
    refine z_sld (pc := 8) dL_at_8 (vp_in_nI hc (by omega)) ?_
    refine z_goto (pc := 9) (tgt := 21) dL_at_9 (by decide) ?_
    refine z_iret (pc := 21) dL_at_21 rfl (⟨rfl, _, rfl⟩)
  · refine z_icmp_ge (pc := 3) (tgt := 12) dL_at_3 (by decide) (fun _ => ?_) (fun hn => absurd (nI_le (by omega) (by omega)) hn)
    refine z_ldc (pc := 12) dL_at_12 cc7 ?_
    refine z_iload_n (pc := 14) dL_at_14 rfl ?_
    refine z_iconst_1 (pc := 15) dL_at_15 ?_
    refine z_iadd (pc := 16) dL_at_16 ?_
    refine z_imul (pc := 17) dL_at_17 ?_
    refine z_ldc (pc := 18) dL_at_18 cc8 ?_
    refine z_iadd (pc := 20) dL_at_20 ?_
    refine z_iret (pc := 21) dL_at_21 rfl (⟨rfl, _, rfl⟩)
theorem mL_low (x : Int32) {n : Nat} (h0 : 0 < n) (hn : n < 2 ^ 31) : z_M G zL_low 0 [.int x, .int (nI n)] w 0 0 (fun v w' => w' = w ∧ ∃ j, j < n ∧ v = some (.int (nI j))) z_nx := by
  have hne : ¬ nI n = 0 := nI_ne0 h0 hn
  refine z_M.of (by decide +kernel) rfl (by intro v hv; simp only [List.mem_cons, List.not_mem_nil, or_false] at hv; rcases hv with rfl | rfl <;> first | rfl | exact z_isr_cat (z_isr_rf _)) (Nat.le_of_ble_eq_true rfl) ?_
  show z_E _ zL_low _ _ 0 [some (.int x), some (.int (nI n))] [] _ _ _
  refine z_iload_n (pc := 0) dL_low_0 rfl ?_
  refine z_ldc (pc := 1) dL_low_1 cc9 ?_
  refine z_iand (pc := 3) dL_low_3 ?_
  refine z_iload_n (pc := 4) dL_low_4 rfl ?_
  obtain ⟨j, hj, ej⟩ := pk_andE x (m := 2147483647) 31 (by decide)
  rw [ej]
  refine z_irem (pc := 5) dL_low_5 (by first | decide | assumption) ?_
  rw [pk_rem hj h0 hn]
  refine z_iret (pc := 6) dL_low_6 rfl (⟨rfl, _, Nat.mod_lt _ h0, rfl⟩)
theorem vX_games (hV : z_V G F a0 ws I N oc B w) : z_M G zX5_games 0 [.ref a0] w 0 0 (z_rp (.int (nI (z_edo N oc))) w) z_nx := by
  have hn := hV.n
  have hg := fun g => hV.g (g := g)
  obtain ⟨A, O, M, rfl, rfl, hJ, hK, hC, hf⟩ := hV
  have h := mX5_games hC
  cases ho : O 0 0 with
  | none =>
    rw [ho] at h
    exact h
  | some g =>
    rw [ho] at h
    have h1 := (hg g ho).1
    have e : nI (N 1 0) - 1 = nI (N 1 0 - 1) := pk_sub (b := 1) (by omega)
    show z_M G zX5_games 0 [.ref (A 0 0 0)] w 0 0 (z_rp (.int (nI (N 1 0 - 1))) w) z_nx
    rw [← e]
    exact h
theorem vX_puzzles (hV : z_V G F a0 ws I N oc B w) : z_M G zX5_puzzles 0 [.ref a0] w 0 0 (z_rp (.int (nI (N 2 0))) w) z_nx := by
  obtain ⟨A, O, M, rfl, rfl, hJ, hK, hC, hf⟩ := hV
  exact mX5_puzzles hC
def z_po (I : z_TI) (oc : Option Nat) : Int32 := match oc with | none => -1 | some g => I 6 g 0
theorem vX_position (hV : z_V G F a0 ws I N oc B w) : z_M G zX5_position 0 [.ref a0] w 0 0 (z_rp (.int (z_po I oc)) w) z_nx := by
  obtain ⟨A, O, M, rfl, rfl, hJ, hK, hC, hf⟩ := hV
  exact mX5_position hC hJ.1
theorem z_posd : ∀ j, j < 1000 → bst (nI j) = nI (bst (nI j)).toNatClampNeg ∧ (bst (nI j)).toNatClampNeg < 4 ∧ ¬ wo (nI j) < -50 ∧ ¬ (50 : Int32) < wo (nI j) := by decide +kernel
theorem z_posm : ∀ j, j < 1000 → ∀ m, m < 4 → (m < (bst (nI j)).toNatClampNeg → ¬ wo (nx (nI j) (bst (nI j))) ≤ wo (nx (nI j) (nI m))) ∧ (¬ m < (bst (nI j)).toNatClampNeg → ¬ wo (nx (nI j) (bst (nI j))) < wo (nx (nI j) (nI m))) := by decide +kernel
theorem iL_position (hV : z_V G F a0 ws I N oc B w) {j m b : Nat} (hj : j < 1000) (hm : m < 4) (hb : bst (nI j) = nI b) (hb4 : b < 4) {Z : z_Gq} {x5 x6 : Option Value} {k n : Nat} (hk : 8 ≤ k) (hn : 48 ≤ n) (kk : ∀ x5 x6, z_E G zL_position 9 Z 62 [some (.ref a0), some (.int (nI j)), some (.int (nI b)), some (.int 1), some (.int (nI (m + 1))), x5, x6] [] w (k - 8) (n - 48)) :
    z_E G zL_position 9 Z 62 [some (.ref a0), some (.int (nI j)), some (.int (nI b)), some (.int 1), some (.int (nI m)), x5, x6] [] w k n := by
  have h1 : z_rg (nI j) 1000 ∧ z_rg (nI m) 4 := ⟨⟨j, hj, rfl⟩, ⟨m, hm, rfl⟩⟩
  have h2 : z_rg (nI j) 1000 ∧ z_rg (nI b) 4 := ⟨⟨j, hj, rfl⟩, ⟨b, hb4, rfl⟩⟩
  have h3 := z_nxg h1.1 h1.2
  have h4 := z_nxg h2.1 h2.2
  have hp := z_posm j hj m hm
  rw [hb, nI_clamp (show b < 2 ^ 31 by omega)] at hp
  refine z_iload (pc := 62) dL_position_62 rfl ?_
  refine z_iconst_4 (pc := 64) dL_position_64 ?_
  refine z_icmp_ge (pc := 65) (tgt := 157) dL_position_65 (by decide) (fun hn => absurd hn (fun z => absurd ((nI_leI (a := 4) (by omega) (by omega)).1 z) (by omega))) (fun _ => ?_)
  refine z_iload_n (pc := 68) dL_position_68 rfl ?_
  refine z_if_eq (pc := 69) (tgt := 157) dL_position_69 (by decide) (fun hn => absurd hn (by decide)) (fun _ => ?_)
  refine z_aload_n (pc := 72) dL_position_72 rfl (by first | rfl | exact z_isr_rf _) ?_
  refine z_iload_n (pc := 73) dL_position_73 rfl ?_
  refine z_iload (pc := 74) dL_position_74 rfl ?_
  refine z_callSXp (pc := 76) (wL_after hV (nI j) (nI m)) dL_position_76 cwL_96 okL_after rfl (by omega) rfl (Nat.le_of_ble_eq_true rfl) (by omega) (by omega) ?_
  rw [z_if_t h1]
  refine z_istore5 (pc := 79) dL_position_79 ?_
  refine z_aload_n (pc := 81) dL_position_81 rfl (by first | rfl | exact z_isr_rf _) ?_
  refine z_aload_n (pc := 82) dL_position_82 rfl (by first | rfl | exact z_isr_rf _) ?_
  refine z_iload_n (pc := 83) dL_position_83 rfl ?_
  refine z_iload_n (pc := 84) dL_position_84 rfl ?_
  refine z_callSXp (pc := 85) (wL_after hV (nI j) (nI b)) dL_position_85 cwL_96 okL_after rfl (by omega) rfl (Nat.le_of_ble_eq_true rfl) (by omega) (by omega) ?_
  rw [z_if_t h2]
  refine z_callSXp (pc := 88) (wL_worth hV (nx (nI j) (nI b))) dL_position_88 cwL_94 okL_worth rfl (by omega) rfl (Nat.le_of_ble_eq_true rfl) (by omega) (by omega) ?_
  rw [z_if_t h4]
  refine z_istore6 (pc := 91) dL_position_91 ?_
  refine z_iload (pc := 93) dL_position_93 rfl ?_
  refine z_bipush_7 (pc := 95) dL_position_95 ?_
  refine z_iload_n (pc := 97) dL_position_97 rfl ?_
  refine z_imul (pc := 98) dL_position_98 ?_
  refine z_bipush_13 (pc := 99) dL_position_99 ?_
  refine z_iload (pc := 101) dL_position_101 rfl ?_
  refine z_imul (pc := 103) dL_position_103 ?_
  refine z_iadd (pc := 104) dL_position_104 ?_
  refine z_iconst_5 (pc := 105) dL_position_105 ?_
  refine z_iadd (pc := 106) dL_position_106 ?_
  refine z_sipush_1000 (pc := 107) dL_position_107 ?_
  refine z_irem (pc := 110) dL_position_110 (by first | decide | assumption) ?_
  refine z_icmp_ne (pc := 111) (tgt := 149) dL_position_111 (by decide) (fun hn => absurd (rfl) hn) (fun _ => ?_)
  refine z_iload (pc := 114) dL_position_114 rfl ?_
  refine z_iload_n (pc := 116) dL_position_116 rfl ?_
  by_cases hc : m < b
  · refine z_icmp_ge (pc := 117) (tgt := 134) dL_position_117 (by decide) (fun hn => absurd hn (nI_ge hc (by omega))) (fun _ => ?_)
    refine z_aload_n (pc := 120) dL_position_120 rfl (by first | rfl | exact z_isr_rf _) ?_
    refine z_iload (pc := 121) dL_position_121 rfl ?_
    refine z_callSXp (pc := 123) (wL_worth hV (nx (nI j) (nI m))) dL_position_123 cwL_94 okL_worth rfl (by omega) rfl (Nat.le_of_ble_eq_true rfl) (by omega) (by omega) ?_
    rw [z_if_t h3]
    refine z_iload (pc := 126) dL_position_126 rfl ?_
    refine z_icmp_ge (pc := 128) (tgt := 149) dL_position_128 (by decide) (fun hn => absurd hn (hp.1 hc)) (fun _ => ?_)
    refine z_goto (pc := 131) (tgt := 145) dL_position_131 (by decide) ?_
    refine z_iconst_1 (pc := 145) dL_position_145 ?_
    refine z_goto (pc := 146) (tgt := 150) dL_position_146 (by decide) ?_
    refine z_istore3 (pc := 150) dL_position_150 ?_
    refine z_iinc4 (pc := 151) dL_position_151 ?_
    refine z_goto (pc := 154) (tgt := 62) dL_position_154 (by decide) ?_
    rw [nI_1]
    exact z_E.mono (by omega) (by omega) (kk _ _)
  · refine z_icmp_ge (pc := 117) (tgt := 134) dL_position_117 (by decide) (fun _ => ?_) (fun hn => absurd (nI_le (by omega) (by omega)) hn)
    refine z_aload_n (pc := 134) dL_position_134 rfl (by first | rfl | exact z_isr_rf _) ?_
    refine z_iload (pc := 135) dL_position_135 rfl ?_
    refine z_callSXp (pc := 137) (wL_worth hV (nx (nI j) (nI m))) dL_position_137 cwL_94 okL_worth rfl (by omega) rfl (Nat.le_of_ble_eq_true rfl) (by omega) (by omega) ?_
    rw [z_if_t h3]
    refine z_iload (pc := 140) dL_position_140 rfl ?_
    refine z_icmp_gt (pc := 142) (tgt := 149) dL_position_142 (by decide) (fun hn => absurd hn (hp.2 hc)) (fun _ => ?_)
    refine z_iconst_1 (pc := 145) dL_position_145 ?_
    refine z_goto (pc := 146) (tgt := 150) dL_position_146 (by decide) ?_
    refine z_istore3 (pc := 150) dL_position_150 ?_
    refine z_iinc4 (pc := 151) dL_position_151 ?_
    refine z_goto (pc := 154) (tgt := 62) dL_position_154 (by decide) ?_
    rw [nI_1]
    exact z_E.mono (by omega) (by omega) (kk _ _)
theorem mL_position (hV : z_V G F a0 ws I N oc B w) {j : Nat} (hj : j < 1000) : z_M G zL_position 9 [.ref a0, .int (nI j)] w 48 288 (z_rp (.int 1) w) z_nx := by
  obtain ⟨hb, hb4, h50, h51⟩ := z_posd j hj
  generalize (bst (nI j)).toNatClampNeg = b at hb hb4
  have h1 : z_rg (nI j) 1000 := ⟨j, hj, rfl⟩
  have n1 : ¬ (z_rg (nI j) 1000 ∧ z_rg 4 4) := fun z => z_rg_ge (by decide) (by decide) z.2
  have n2 : ¬ (z_rg 1000 1000 ∧ z_rg 0 4) := fun z => z_rg_ge (by decide) (by decide) z.1
  have n3 : ¬ z_rg (-1) 1000 := z_rg_lt (by decide) (by decide)
  have n4 : ¬ z_rg 1000 1000 := z_rg_ge (by decide) (by decide)
  refine z_M.of (by decide +kernel) rfl (by intro v hv; simp only [List.mem_cons, List.not_mem_nil, or_false] at hv; rcases hv with rfl | rfl <;> first | rfl | exact z_isr_cat (z_isr_rf _)) (Nat.le_of_ble_eq_true rfl) ?_
  show z_E _ zL_position _ _ 0 [some (.ref a0), some (.int (nI j)), none, none, none, none, none] [] _ _ _
  refine z_aload_n (pc := 0) dL_position_0 rfl (by first | rfl | exact z_isr_rf _) ?_
  refine z_iload_n (pc := 1) dL_position_1 rfl ?_
  refine z_callSXp (pc := 2) (wL_best hV (nI j)) dL_position_2 cwL_89 okL_best rfl (by omega) rfl (Nat.le_of_ble_eq_true rfl) (by omega) (by omega) ?_
  rw [z_if_t h1, hb]
  refine z_istore2 (pc := 5) dL_position_5 ?_
  refine z_iload_n (pc := 6) dL_position_6 rfl ?_
  refine z_if_lt (pc := 7) (tgt := 57) dL_position_7 (by decide) (fun hn => absurd hn (nI_pos (by omega))) (fun _ => ?_)
  refine z_iload_n (pc := 10) dL_position_10 rfl ?_
  refine z_iconst_4 (pc := 11) dL_position_11 ?_
  refine z_icmp_ge (pc := 12) (tgt := 57) dL_position_12 (by decide) (fun hn => absurd hn (fun z => absurd ((nI_leI (a := 4) (by omega) (by omega)).1 z) (by omega))) (fun _ => ?_)
  refine z_aload_n (pc := 15) dL_position_15 rfl (by first | rfl | exact z_isr_rf _) ?_
  refine z_iload_n (pc := 16) dL_position_16 rfl ?_
  refine z_callSXp (pc := 17) (wL_worth hV (nI j)) dL_position_17 cwL_94 okL_worth rfl (by omega) rfl (Nat.le_of_ble_eq_true rfl) (by omega) (by omega) ?_
  rw [z_if_t h1]
  refine z_bipush_m50 (pc := 20) dL_position_20 ?_
  refine z_icmp_lt (pc := 22) (tgt := 57) dL_position_22 (by decide) (fun hn => absurd hn (h50)) (fun _ => ?_)
  refine z_aload_n (pc := 25) dL_position_25 rfl (by first | rfl | exact z_isr_rf _) ?_
  refine z_iload_n (pc := 26) dL_position_26 rfl ?_
  refine z_callSXp (pc := 27) (wL_worth hV (nI j)) dL_position_27 cwL_94 okL_worth rfl (by omega) rfl (Nat.le_of_ble_eq_true rfl) (by omega) (by omega) ?_
  rw [z_if_t h1]
  refine z_bipush_50 (pc := 30) dL_position_30 ?_
  refine z_icmp_gt (pc := 32) (tgt := 57) dL_position_32 (by decide) (fun hn => absurd hn (h51)) (fun _ => ?_)
  refine z_aload_n (pc := 35) dL_position_35 rfl (by first | rfl | exact z_isr_rf _) ?_
  refine z_iload_n (pc := 36) dL_position_36 rfl ?_
  refine z_callSXp (pc := 37) (wL_worth hV (nI j)) dL_position_37 cwL_94 okL_worth rfl (by omega) rfl (Nat.le_of_ble_eq_true rfl) (by omega) (by omega) ?_
  rw [z_if_t h1]
  refine z_iload_n (pc := 40) dL_position_40 rfl ?_
  refine z_bipush_37 (pc := 41) dL_position_41 ?_
  refine z_imul (pc := 43) dL_position_43 ?_
  refine z_bipush_101 (pc := 44) dL_position_44 ?_
  refine z_irem (pc := 46) dL_position_46 (by first | decide | assumption) ?_
  refine z_bipush_50 (pc := 47) dL_position_47 ?_
  refine z_isub (pc := 49) dL_position_49 ?_
  refine z_icmp_ne (pc := 50) (tgt := 57) dL_position_50 (by decide) (fun hn => absurd (rfl) hn) (fun _ => ?_)
  refine z_iconst_1 (pc := 53) dL_position_53 ?_
  refine z_goto (pc := 54) (tgt := 58) dL_position_54 (by decide) ?_
  refine z_istore3 (pc := 58) dL_position_58 ?_
  refine z_iconst_0 (pc := 59) dL_position_59 ?_
  refine z_istore4 (pc := 60) dL_position_60 ?_
  refine iL_position hV (m := 0) hj (by omega) hb hb4 (by omega) (by omega) (fun y5 y6 => ?_)
  refine iL_position hV (m := 1) hj (by omega) hb hb4 (by omega) (by omega) (fun y5 y6 => ?_)
  refine iL_position hV (m := 2) hj (by omega) hb hb4 (by omega) (by omega) (fun y5 y6 => ?_)
  refine iL_position hV (m := 3) hj (by omega) hb hb4 (by omega) (by omega) (fun y5 y6 => ?_)
  refine z_iload (pc := 62) dL_position_62 rfl ?_
  refine z_iconst_4 (pc := 64) dL_position_64 ?_
  refine z_icmp_ge (pc := 65) (tgt := 157) dL_position_65 (by decide) (fun _ => ?_) (fun hn => absurd (by decide) hn)
  refine z_iload_n (pc := 157) dL_position_157 rfl ?_
  refine z_if_eq (pc := 158) (tgt := 211) dL_position_158 (by decide) (fun hn => absurd hn (by decide)) (fun _ => ?_)
  refine z_aload_n (pc := 161) dL_position_161 rfl (by first | rfl | exact z_isr_rf _) ?_
  refine z_iload_n (pc := 162) dL_position_162 rfl ?_
  refine z_iconst_4 (pc := 163) dL_position_163 ?_
  refine z_callSXp (pc := 164) (wL_after hV (nI j) 4) dL_position_164 cwL_96 okL_after rfl (by omega) rfl (Nat.le_of_ble_eq_true rfl) (by omega) (by omega) ?_
  rw [z_if_f n1]
  refine z_ldc (pc := 167) dL_position_167 cc18 ?_
  refine z_icmp_ne (pc := 169) (tgt := 211) dL_position_169 (by decide) (fun hn => absurd (rfl) hn) (fun _ => ?_)
  refine z_aload_n (pc := 172) dL_position_172 rfl (by first | rfl | exact z_isr_rf _) ?_
  refine z_sipush_1000 (pc := 173) dL_position_173 ?_
  refine z_iconst_0 (pc := 176) dL_position_176 ?_
  refine z_callSXp (pc := 177) (wL_after hV 1000 0) dL_position_177 cwL_96 okL_after rfl (by omega) rfl (Nat.le_of_ble_eq_true rfl) (by omega) (by omega) ?_
  rw [z_if_f n2]
  refine z_ldc (pc := 180) dL_position_180 cc18 ?_
  refine z_icmp_ne (pc := 182) (tgt := 211) dL_position_182 (by decide) (fun hn => absurd (rfl) hn) (fun _ => ?_)
  refine z_aload_n (pc := 185) dL_position_185 rfl (by first | rfl | exact z_isr_rf _) ?_
  refine z_iconst_m1 (pc := 186) dL_position_186 ?_
  refine z_callSXp (pc := 187) (wL_worth hV (-1)) dL_position_187 cwL_94 okL_worth rfl (by omega) rfl (Nat.le_of_ble_eq_true rfl) (by omega) (by omega) ?_
  rw [z_if_f n3]
  refine z_ldc (pc := 190) dL_position_190 cc18 ?_
  refine z_icmp_ne (pc := 192) (tgt := 211) dL_position_192 (by decide) (fun hn => absurd (rfl) hn) (fun _ => ?_)
  refine z_aload_n (pc := 195) dL_position_195 rfl (by first | rfl | exact z_isr_rf _) ?_
  refine z_sipush_1000 (pc := 196) dL_position_196 ?_
  refine z_callSXp (pc := 199) (wL_best hV 1000) dL_position_199 cwL_89 okL_best rfl (by omega) rfl (Nat.le_of_ble_eq_true rfl) (by omega) (by omega) ?_
  rw [z_if_f n4]
  refine z_ldc (pc := 202) dL_position_202 cc18 ?_
  refine z_icmp_ne (pc := 204) (tgt := 211) dL_position_204 (by decide) (fun hn => absurd (rfl) hn) (fun _ => ?_)
  refine z_iconst_1 (pc := 207) dL_position_207 ?_
  refine z_goto (pc := 208) (tgt := 212) dL_position_208 (by decide) ?_
  refine z_zret (pc := 212) dL_position_212 rfl (Or.inr rfl ) ( ⟨rfl, rfl⟩)
end LA

