/-! the reference's puzzles: solve, offered, makes -/
theorem z_th_v : ∀ j, j < 1000 → nI j - nI j / 5 * 5 = nI (j % 5) := by decide +kernel
theorem z_J.hT {I : z_TI} {N : z_TN} {O : z_TO} {B : z_TB} {M : z_TM} (h : z_J I N O B M) : ∀ z, z < N 8 0 → I 9 z 0 - I 9 z 0 / 5 * 5 = nI (z_th I z) := by
  intro z hz
  have := h.1.2.2.1
  obtain ⟨j, hj, e⟩ := (h.2.2.2.2.1.2 z (by omega)).2.2
  unfold z_th
  rw [e, nI_clamp (by omega)]
  exact z_th_v j hj
theorem z_lsub {a b : Nat} (ha : a < 3001) (hb : b < 3001) : ((0 : Int32) < nI a - nI b ↔ b < a) ∧ (nI a - nI b = 0 ↔ a = b) := by
  have e : (nI a - nI b).toInt = (a : Int) - b := by
    rw [Int32.toInt_sub, nI_toInt (by omega), nI_toInt (by omega)]
    exact Int.bmod_eq_of_le (by omega) (by omega)
  have e0 : (0 : Int32).toInt = 0 := rfl
  constructor
  · rw [Int32.lt_iff_toInt_lt, e, e0]; omega
  · rw [← Int32.toInt_inj, e, e0]; omega
theorem z_rmax {r : Int32} (hr : z_rg r 3001) : ((1000 : Int32) < r ∨ ¬ (1000 : Int32) < r) := Classical.em _
theorem z_of_ge {I : z_TI} {p nz : Nat} : ∀ k, nz ≤ k → z_of I p nz k = z_of I p nz nz := by
  intro k hk
  induction hk with
  | refl => rfl
  | step h ih =>
    rename_i m
    rw [z_of, if_neg (fun z => absurd z.1 (Nat.not_lt.mpr h)), ih]
section MPZ
variable {G : z_G} {F : Nat → Prop} {A : z_TA} {M : z_TM} {w : z_W} {I : z_TI} {N : z_TN} {O : z_TO} {B : z_TB}
theorem iX6_solve {Z : z_Gq} (hM : z_Mo G F A M w) {j : Nat} {r s : Int32} {x1 x2 x3 x4 x5 : Option Value} (hj : j < 40) (hr : M 3 j = r) (kk : ∀ w' x8 x9, z_Mo G F A (z_sM M 3 j (rbM r s)) w' → z_fr F w w' → z_E G zX6_solve 3 Z 212 [some (.ref (A 22 0 0)), x1, x2, x3, x4, x5, some (.int s), some (.int (nI j)), x8, x9] [.int s] w' 0 0) : z_E G zX6_solve 3 Z 124 [some (.ref (A 22 0 0)), x1, x2, x3, x4, x5, some (.int s), some (.int (nI j)), none, none] [.int r] w 0 0 := by
  have f209 : ∀ (v : Int32) x8 x9, v = rbM r s → z_E G zX6_solve 3 Z 209 [some (.ref (A 22 0 0)), x1, x2, x3, x4, x5, some (.int s), some (.int (nI j)), x8, x9] [.int v, .int (nI j), .ref (A 3 0 0)] w 0 0 := by
    intro v x8 x9 hv
    refine z_iast (pc := 209) dX6_solve_209 (hM.k3) (vp_in_nI hj (by omega)) ?_
    rw [nI_clamp (show j < 2 ^ 31 by omega), hv]
    refine z_genM (hM.p3 j (rbM r s)) (fun w2 hM2 hf2 => ?_)
    refine z_iload (pc := 210) dX6_solve_210 rfl ?_
    exact kk w2 x8 x9 hM2 hf2
  have f172 : ∀ (c : Int32) x8, c = (if s = 0 then (-16) else 32 - (if (1000 : Int32) < r then (r - 1000) / 50 else 0)) → z_E G zX6_solve 3 Z 172 [some (.ref (A 22 0 0)), x1, x2, x3, x4, x5, some (.int s), some (.int (nI j)), x8, none] [.int c, .int r] w 0 0 := by
    intro c x8 hc
    have e : rbM r s = (if r + c < 100 then 100 else if (3000 : Int32) < r + c then 3000 else r + c) := by
      rw [hc]; rfl
    refine z_iadd (pc := 172) dX6_solve_172 ?_
    refine z_istore9 (pc := 173) dX6_solve_173 ?_
    refine z_aload_n (pc := 175) dX6_solve_175 rfl (by first | rfl | exact z_isr_rf _) ?_
    refine gfX6_16 (pc := 176) rfl dX6_solve_176 (hM.k22) rfl ?_
    refine z_iload (pc := 179) dX6_solve_179 rfl ?_
    refine z_iload (pc := 181) dX6_solve_181 rfl ?_
    refine z_bipush_100 (pc := 183) dX6_solve_183 ?_
    refine z_icmp_ge (pc := 185) (tgt := 193) dX6_solve_185 (by decide) (fun h1 => ?_) (fun h1 => ?_)
    · refine z_iload (pc := 193) dX6_solve_193 rfl ?_
      refine z_sipush_3000 (pc := 195) dX6_solve_195 ?_
      refine z_icmp_le (pc := 198) (tgt := 207) dX6_solve_198 (by decide) (fun h2 => ?_) (fun h2 => ?_)
      · refine z_iload (pc := 207) dX6_solve_207 rfl ?_
        exact f209 _ _ _ (by rw [e, if_neg (Int32.not_lt.mpr h1), if_neg (Int32.not_lt.mpr h2)])
      · refine z_sipush_3000 (pc := 201) dX6_solve_201 ?_
        refine z_goto (pc := 204) (tgt := 209) dX6_solve_204 (by decide) ?_
        exact f209 _ _ _ (by rw [e, if_neg (Int32.not_lt.mpr h1), if_pos (Int32.not_le.mp h2)])
    · refine z_bipush_100 (pc := 188) dX6_solve_188 ?_
      refine z_goto (pc := 190) (tgt := 209) dX6_solve_190 (by decide) ?_
      exact f209 _ _ _ (by rw [e, if_pos (Int32.not_le.mp h1)])
  have f148 : ∀ (a : Int32), a = (if (1000 : Int32) < r then (r - 1000) / 50 else 0) → z_E G zX6_solve 3 Z 148 [some (.ref (A 22 0 0)), x1, x2, x3, x4, x5, some (.int s), some (.int (nI j)), none, none] [.int a] w 0 0 := by
    intro a ha
    refine z_istore8 (pc := 148) dX6_solve_148 ?_
    refine z_aload_n (pc := 150) dX6_solve_150 rfl (by first | rfl | exact z_isr_rf _) ?_
    refine gfX6_16 (pc := 151) rfl dX6_solve_151 (hM.k22) rfl ?_
    refine z_iload (pc := 154) dX6_solve_154 rfl ?_
    refine z_iald (pc := 156) dX6_solve_156 (hM.k3) (vp_in_nI hj (by omega)) ?_
    rw [nI_clamp (show j < 2 ^ 31 by omega), hr]
    refine z_iload (pc := 157) dX6_solve_157 rfl ?_
    refine z_if_eq (pc := 159) (tgt := 170) dX6_solve_159 (by decide) (fun h1 => ?_) (fun h1 => ?_)
    · refine z_bipush_m16 (pc := 170) dX6_solve_170 ?_
      exact f172 _ _ (by rw [if_pos h1])
    · refine z_bipush_32 (pc := 162) dX6_solve_162 ?_
      refine z_iload (pc := 164) dX6_solve_164 rfl ?_
      refine z_isub (pc := 166) dX6_solve_166 ?_
      refine z_goto (pc := 167) (tgt := 172) dX6_solve_167 (by decide) ?_
      exact f172 _ _ (by rw [if_neg h1, ha])
  refine z_sipush_1000 (pc := 124) dX6_solve_124 ?_
  refine z_icmp_le (pc := 127) (tgt := 147) dX6_solve_127 (by decide) (fun h1 => ?_) (fun h1 => ?_)
  · refine z_iconst_0 (pc := 147) dX6_solve_147 ?_
    exact f148 0 (by rw [if_neg (Int32.not_lt.mpr h1)])
  · refine z_aload_n (pc := 130) dX6_solve_130 rfl (by first | rfl | exact z_isr_rf _) ?_
    refine gfX6_16 (pc := 131) rfl dX6_solve_131 (hM.k22) rfl ?_
    refine z_iload (pc := 134) dX6_solve_134 rfl ?_
    refine z_iald (pc := 136) dX6_solve_136 (hM.k3) (vp_in_nI hj (by omega)) ?_
    rw [nI_clamp (show j < 2 ^ 31 by omega), hr]
    refine z_sipush_1000 (pc := 137) dX6_solve_137 ?_
    refine z_isub (pc := 140) dX6_solve_140 ?_
    refine z_bipush_50 (pc := 141) dX6_solve_141 ?_
    refine z_idiv (pc := 143) dX6_solve_143 (by decide) ?_
    refine z_goto (pc := 144) (tgt := 148) dX6_solve_144 (by decide) ?_
    exact f148 _ (by rw [if_pos (Int32.not_le.mp h1)])
theorem mX6_solve (hM : z_Mo G F A M w) (hJ : z_J I N O B M) (x y m : Int32) : z_M G zX6_solve 3 [.ref (A 22 0 0), .int x, .int y, .int m] w 0 0 (fun v w' => z_fr F w w' ∧ ((∃ p z, p < N 6 0 ∧ z < N 8 0 ∧ x = nI p ∧ y = nI z ∧ z_rg m 4 ∧ I 4 p z = 0 ∧ v = some (.int (if m = bst (I 9 z 0) then 1 else 0)) ∧ z_Mo G F A (z_ms M p z (z_th I z) (rb (I 3 p (z_th I z)) (if m = bst (I 9 z 0) then 1 else 0))) w') ∨ ((¬ (z_rg x (N 6 0) ∧ z_rg y (N 8 0)) ∨ ¬ z_rg m 4 ∨ ¬ (∀ p z, x = nI p → y = nI z → p < N 6 0 → z < N 8 0 → I 4 p z = 0)) ∧ v = some (.int 0) ∧ z_Mo G F A (z_sM M 21 0 (z_go (z_rg x (N 6 0) ∧ z_rg y (N 8 0)) (z_rg m 4) (∀ p z, x = nI p → y = nI z → p < N 6 0 → z < N 8 0 → I 4 p z = 0))) w'))) z_nx := by
  have hS := hJ.1
  have h6 : N 6 0 = N 0 0 := hS.1
  have h8 : N 8 0 = N 2 0 := hS.2.2.1
  have l6 : N 6 0 ≤ 8 := by rw [h6]; exact hS.2.2.2.1
  have l8 : N 8 0 ≤ 40 := by rw [h8]; exact hS.2.2.2.2.2.1
  have hP := hJ.2.2.1
  have hZ := hJ.2.2.2.2.1
  have h0 : M 0 0 = nI (N 6 0) := by rw [h6]; exact hP.1
  have h13 : M 13 0 = nI (N 8 0) := by rw [h8]; exact hZ.1
  refine z_M.of (by decide +kernel) rfl (by intro v hv; simp only [List.mem_cons, List.not_mem_nil, or_false] at hv; rcases hv with rfl | rfl | rfl | rfl <;> first | rfl | exact z_isr_cat (z_isr_rf _)) (Nat.le_of_ble_eq_true rfl) ?_
  show z_E _ zX6_solve _ _ 0 [some (.ref (A 22 0 0)), some (.int x), some (.int y), some (.int m), none, none, none, none, none, none] [] _ _ _
  have bad : ∀ (x4 x5 : Option Value) (a b c : Int32) (P1 P2 P3 : Prop), ¬ (P1 ∧ P2 ∧ P3) → z_go P1 P2 P3 = z_go (z_rg x (N 6 0) ∧ z_rg y (N 8 0)) (z_rg m 4) (∀ p z, x = nI p → y = nI z → p < N 6 0 → z < N 8 0 → I 4 p z = 0) → (¬ (z_rg x (N 6 0) ∧ z_rg y (N 8 0)) ∨ ¬ z_rg m 4 ∨ ¬ (∀ p z, x = nI p → y = nI z → p < N 6 0 → z < N 8 0 → I 4 p z = 0)) → a = z_b P1 → b = z_b P2 → c = z_b P3 → z_E G zX6_solve 3 (z_mq G (fun v w' => z_fr F w w' ∧ ((∃ p z, p < N 6 0 ∧ z < N 8 0 ∧ x = nI p ∧ y = nI z ∧ z_rg m 4 ∧ I 4 p z = 0 ∧ v = some (.int (if m = bst (I 9 z 0) then 1 else 0)) ∧ z_Mo G F A (z_ms M p z (z_th I z) (rb (I 3 p (z_th I z)) (if m = bst (I 9 z 0) then 1 else 0))) w') ∨ ((¬ (z_rg x (N 6 0) ∧ z_rg y (N 8 0)) ∨ ¬ z_rg m 4 ∨ ¬ (∀ p z, x = nI p → y = nI z → p < N 6 0 → z < N 8 0 → I 4 p z = 0)) ∧ v = some (.int 0) ∧ z_Mo G F A (z_sM M 21 0 (z_go (z_rg x (N 6 0) ∧ z_rg y (N 8 0)) (z_rg m 4) (∀ p z, x = nI p → y = nI z → p < N 6 0 → z < N 8 0 → I 4 p z = 0))) w'))) z_nx) 67 [some (.ref (A 22 0 0)), some (.int x), some (.int y), some (.int m), x4, x5, none, none, none, none] [.int c, .int b, .int a, .ref (A 22 0 0)] w 0 0 := by
    intro x4 x5 a b c P1 P2 P3 hn hgo hbad ha hb hc
    refine z_callV (pc := 67) (mX6_goes hM ha hb hc) dX6_solve_67 cwX6_91 okX6_goes rfl (hM.k22) rfl rfl (by omega) rfl (Nat.le_of_ble_eq_true rfl) (by omega) (by omega) (fun _ _ h => h.elim) (fun v wN hN => ?_)
    obtain ⟨rfl, hM2, hf2⟩ := hN
    rw [hgo] at hM2
    rw [z_b_f hn]
    refine z_if_ne (pc := 70) (tgt := 75) dX6_solve_70 (by decide) (fun hn => absurd (rfl) hn) (fun _ => ?_)
    refine z_iconst_0 (pc := 73) dX6_solve_73 ?_
    refine z_zret (pc := 74) dX6_solve_74 rfl (Or.inl rfl ) ( ⟨hf2, Or.inr ⟨hbad, rfl, hM2⟩⟩)
  by_cases hxy : z_rg x (N 6 0) ∧ z_rg y (N 8 0)
  · obtain ⟨⟨p, hp, rfl⟩, z, hz, rfl⟩ := hxy
    have hpz := hP.2.1 p (by omega)
    have hzz := hZ.2 z (by omega)
    have h4 := hpz.2.2.2 z (by omega)
    have hT := hJ.hT z hz
    have ht5 : z_th I z < 5 := Nat.mod_lt _ (by decide)
    have h3 := hpz.2.2.1 (z_th I z) ht5
    have e40 : (40 : Int32) * nI p + nI z = nI (40 * p + z) := by
      rw [show (40 : Int32) = nI 40 from rfl, z_nm, nI_add]
    have e5 : (5 : Int32) * nI p + nI (z_th I z) = nI (5 * p + z_th I z) := by
      rw [show (5 : Int32) = nI 5 from rfl, z_nm, nI_add]
    have hrp : z_rg (nI p) (N 6 0) := ⟨p, hp, rfl⟩
    have hrz : z_rg (nI z) (N 8 0) := ⟨z, hz, rfl⟩
    have hall : (∀ p' z', nI p = nI p' → nI z = nI z' → p' < N 6 0 → z' < N 8 0 → I 4 p' z' = 0) ↔ I 4 p z = 0 := by
      constructor
      · exact fun h => h p z rfl rfl hp hz
      · intro h p' z' q1 q2 q3 q4
        have := nI_inj (by omega) (by omega) q1
        have := nI_inj (by omega) (by omega) q2
        subst_vars
        exact h
    refine z_aload_n (pc := 0) dX6_solve_0 rfl (by first | rfl | exact z_isr_rf _) ?_
    refine z_iload_n (pc := 1) dX6_solve_1 rfl ?_
    refine z_callVp (pc := 2) (mX6_isPlayer hM h0 (by omega) (nI p)) dX6_solve_2 cwX6_102 okX6_isPlayer rfl (hM.k22) rfl rfl (by omega) rfl (Nat.le_of_ble_eq_true rfl) ?_
    rw [z_b_t hrp]
    refine z_if_eq (pc := 5) (tgt := 20) dX6_solve_5 (by decide) (fun hn => absurd hn ((by decide : ¬ (1 : Int32) = 0))) (fun _ => ?_)
    refine z_aload_n (pc := 8) dX6_solve_8 rfl (by first | rfl | exact z_isr_rf _) ?_
    refine z_iload_n (pc := 9) dX6_solve_9 rfl ?_
    refine z_callVp (pc := 10) (mX6_isPuzzle hM h13 (by omega) (nI z)) dX6_solve_10 cwX6_138 okX6_isPuzzle rfl (hM.k22) rfl rfl (by omega) rfl (Nat.le_of_ble_eq_true rfl) ?_
    rw [z_b_t hrz]
    refine z_if_eq (pc := 13) (tgt := 20) dX6_solve_13 (by decide) (fun hn => absurd hn ((by decide : ¬ (1 : Int32) = 0))) (fun _ => ?_)
    refine z_iconst_1 (pc := 16) dX6_solve_16 ?_
    refine z_goto (pc := 17) (tgt := 21) dX6_solve_17 (by decide) ?_
    refine z_istore4 (pc := 21) dX6_solve_21 ?_
    refine z_iload (pc := 23) dX6_solve_23 rfl ?_
    refine z_if_eq (pc := 25) (tgt := 37) dX6_solve_25 (by decide) (fun hn => absurd hn ((by decide : ¬ (1 : Int32) = 0))) (fun _ => ?_)
    refine z_bipush_40 (pc := 28) dX6_solve_28 ?_
    refine z_iload_n (pc := 30) dX6_solve_30 rfl ?_
    refine z_imul (pc := 31) dX6_solve_31 ?_
    refine z_iload_n (pc := 32) dX6_solve_32 rfl ?_
    refine z_iadd (pc := 33) dX6_solve_33 ?_
    rw [e40]
    refine z_goto (pc := 34) (tgt := 38) dX6_solve_34 (by decide) ?_
    refine z_istore5 (pc := 38) dX6_solve_38 ?_
    refine z_aload_n (pc := 40) dX6_solve_40 rfl (by first | rfl | exact z_isr_rf _) ?_
    refine z_iload (pc := 41) dX6_solve_41 rfl ?_
    refine z_iload_n (pc := 43) dX6_solve_43 rfl ?_
    refine z_callSp (pc := 44) (mX6_isMove (G := G) m) dX6_solve_44 cwX6_88 okX6_isMove rfl (by omega) rfl (Nat.le_of_ble_eq_true rfl) ?_
    refine z_iload (pc := 47) dX6_solve_47 rfl ?_
    refine z_if_eq (pc := 49) (tgt := 66) dX6_solve_49 (by decide) (fun hn => absurd hn ((by decide : ¬ (1 : Int32) = 0))) (fun _ => ?_)
    refine z_aload_n (pc := 52) dX6_solve_52 rfl (by first | rfl | exact z_isr_rf _) ?_
    refine gfX6_19 (pc := 53) rfl dX6_solve_53 (hM.k22) rfl ?_
    refine z_iload (pc := 56) dX6_solve_56 rfl ?_
    refine z_zald (pc := 58) dX6_solve_58 (hM.k4) (vp_in_nI (by omega) (by omega)) ?_
    rw [nI_clamp (show 40 * p + z < 2 ^ 31 by omega), h4]
    refine z_if_ne (pc := 59) (tgt := 66) dX6_solve_59 (by decide) (fun hc => ?_) (fun hc => ?_)
    · refine z_iconst_0 (pc := 66) dX6_solve_66 ?_
      exact bad _ _ 1 _ 0 (z_rg (nI p) (N 6 0) ∧ z_rg (nI z) (N 8 0)) (z_rg m 4) (∀ p' z', nI p = nI p' → nI z = nI z' → p' < N 6 0 → z' < N 8 0 → I 4 p' z' = 0) (fun q => hc (hall.1 q.2.2)) rfl (Or.inr (Or.inr (fun q => hc (hall.1 q)))) (z_b_t ⟨hrp, hrz⟩).symm rfl (z_b_f (fun q => hc (hall.1 q))).symm
    · refine z_iconst_1 (pc := 62) dX6_solve_62 ?_
      refine z_goto (pc := 63) (tgt := 67) dX6_solve_63 (by decide) ?_
      by_cases hm4 : z_rg m 4
      · refine z_callV (pc := 67) (mX6_goes hM (P1 := True) (P2 := z_rg m 4) (P3 := True) z_tt rfl z_tt) dX6_solve_67 cwX6_91 okX6_goes rfl (hM.k22) rfl rfl (by omega) rfl (Nat.le_of_ble_eq_true rfl) (by omega) (by omega) (fun _ _ h => h.elim) (fun v wN hN => ?_)
        obtain ⟨rfl, hM2, hf2⟩ := hN
        rw [z_b_t (P := True ∧ z_rg m 4 ∧ True) ⟨trivial, hm4, trivial⟩]
        rw [z_go_0 trivial hm4 trivial] at hM2
        refine z_if_ne (pc := 70) (tgt := 75) dX6_solve_70 (by decide) (fun _ => ?_) (fun hn => absurd hn ((by decide : ¬ (1 : Int32) = 0)))
        refine z_aload_n (pc := 75) dX6_solve_75 rfl (by first | rfl | exact z_isr_rf _) ?_
        refine gfX6_19 (pc := 76) rfl dX6_solve_76 (hM2.k22) rfl ?_
        refine z_iload (pc := 79) dX6_solve_79 rfl ?_
        refine z_iconst_1 (pc := 81) dX6_solve_81 ?_
        refine z_zast (pc := 82) dX6_solve_82 (hM2.k4) (vp_in_nI (by omega) (by omega)) ?_
        rw [nI_clamp (show 40 * p + z < 2 ^ 31 by omega)]
        refine z_genM (hM2.p4 (40 * p + z) 1) (fun w3 hM3 hf3 => ?_)
        refine z_iload_n (pc := 83) dX6_solve_83 rfl ?_
        refine z_aload_n (pc := 84) dX6_solve_84 rfl (by first | rfl | exact z_isr_rf _) ?_
        refine gfX6_38 (pc := 85) rfl dX6_solve_85 (hM3.k22) rfl ?_
        refine z_iload_n (pc := 88) dX6_solve_88 rfl ?_
        refine z_iald (pc := 89) dX6_solve_89 (hM3.k14) (vp_in_nI (by omega) (by omega)) ?_
        rw [nI_clamp (show z < 2 ^ 31 by omega), show z_sM (z_sM M 21 0 0) 4 (40 * p + z) 1 14 z = I 9 z 0 from hzz.1]
        refine z_callSp (pc := 90) (mX6_bestIn G _ (I 9 z 0)) dX6_solve_90 cwX6_81 okX6_bestIn rfl (by omega) rfl (Nat.le_of_ble_eq_true rfl) ?_
        have fin : ∀ s : Int32, (s = 0 ∨ s = 1) → s = (if m = bst (I 9 z 0) then 1 else 0) → z_E G zX6_solve 3 (z_mq G (fun v w' => z_fr F w w' ∧ ((∃ p' z', p' < N 6 0 ∧ z' < N 8 0 ∧ nI p = nI p' ∧ nI z = nI z' ∧ z_rg m 4 ∧ I 4 p' z' = 0 ∧ v = some (.int (if m = bst (I 9 z' 0) then 1 else 0)) ∧ z_Mo G F A (z_ms M p' z' (z_th I z') (rb (I 3 p' (z_th I z')) (if m = bst (I 9 z' 0) then 1 else 0))) w') ∨ ((¬ (z_rg (nI p) (N 6 0) ∧ z_rg (nI z) (N 8 0)) ∨ ¬ z_rg m 4 ∨ ¬ (∀ p' z', nI p = nI p' → nI z = nI z' → p' < N 6 0 → z' < N 8 0 → I 4 p' z' = 0)) ∧ v = some (.int 0) ∧ z_Mo G F A (z_sM M 21 0 (z_go (z_rg (nI p) (N 6 0) ∧ z_rg (nI z) (N 8 0)) (z_rg m 4) (∀ p' z', nI p = nI p' → nI z = nI z' → p' < N 6 0 → z' < N 8 0 → I 4 p' z' = 0))) w'))) z_nx) 101 [some (.ref (A 22 0 0)), some (.int (nI p)), some (.int (nI z)), some (.int m), some (.int 1), some (.int (nI (40 * p + z))), none, none, none, none] [.int s] w3 0 0 := by
          intro s hs1 hs
          have hrb := z_rb h3.2 hs1
          refine z_istore6 (pc := 101) dX6_solve_101 ?_
          refine z_iconst_5 (pc := 103) dX6_solve_103 ?_
          refine z_iload_n (pc := 104) dX6_solve_104 rfl ?_
          refine z_imul (pc := 105) dX6_solve_105 ?_
          refine z_aload_n (pc := 106) dX6_solve_106 rfl (by first | rfl | exact z_isr_rf _) ?_
          refine gfX6_38 (pc := 107) rfl dX6_solve_107 (hM3.k22) rfl ?_
          refine z_iload_n (pc := 110) dX6_solve_110 rfl ?_
          refine z_iald (pc := 111) dX6_solve_111 (hM3.k14) (vp_in_nI (by omega) (by omega)) ?_
          rw [nI_clamp (show z < 2 ^ 31 by omega), show z_sM (z_sM M 21 0 0) 4 (40 * p + z) 1 14 z = I 9 z 0 from hzz.1]
          refine z_iconst_5 (pc := 112) dX6_solve_112 ?_
          refine z_irem (pc := 113) dX6_solve_113 (by decide) ?_
          rw [hT]
          refine z_iadd (pc := 114) dX6_solve_114 ?_
          rw [e5]
          refine z_istore7 (pc := 115) dX6_solve_115 ?_
          refine z_aload_n (pc := 117) dX6_solve_117 rfl (by first | rfl | exact z_isr_rf _) ?_
          refine gfX6_16 (pc := 118) rfl dX6_solve_118 (hM3.k22) rfl ?_
          refine z_iload (pc := 121) dX6_solve_121 rfl ?_
          refine z_iald (pc := 123) dX6_solve_123 (hM3.k3) (vp_in_nI (by omega) (by omega)) ?_
          rw [nI_clamp (show 5 * p + z_th I z < 2 ^ 31 by omega), show z_sM (z_sM M 21 0 0) 4 (40 * p + z) 1 3 (5 * p + z_th I z) = I 3 p (z_th I z) from h3.1]
          refine iX6_solve hM3 (by omega) h3.1 (fun w' x8 x9 hM4 hf4 => ?_)
          rw [← hrb.1] at hM4
          refine z_zret (pc := 212) dX6_solve_212 rfl (hs1 ) ( ⟨hf2.tr (hf3.tr hf4), Or.inl ⟨p, z, hp, hz, rfl, rfl, hm4, hc, by rw [hs], by rw [hs] at hM4; exact hM4⟩⟩)
        refine z_icmp_ne (pc := 93) (tgt := 100) dX6_solve_93 (by decide) (fun hd => ?_) (fun hd => ?_)
        · refine z_iconst_0 (pc := 100) dX6_solve_100 ?_
          exact fin 0 (Or.inl rfl) (by rw [if_neg hd])
        · refine z_iconst_1 (pc := 96) dX6_solve_96 ?_
          refine z_goto (pc := 97) (tgt := 101) dX6_solve_97 (by decide) ?_
          exact fin 1 (Or.inr rfl) (by rw [if_pos hd])
      · exact bad _ _ 1 _ 1 True (z_rg m 4) True (fun q => hm4 q.2.1) (by rw [z_go_2 trivial hm4, z_go_2 ⟨hrp, hrz⟩ hm4]) (Or.inr (Or.inl hm4)) z_tt rfl z_tt
  · have t21 : z_E G zX6_solve 3 (z_mq G (fun v w' => z_fr F w w' ∧ ((∃ p z, p < N 6 0 ∧ z < N 8 0 ∧ x = nI p ∧ y = nI z ∧ z_rg m 4 ∧ I 4 p z = 0 ∧ v = some (.int (if m = bst (I 9 z 0) then 1 else 0)) ∧ z_Mo G F A (z_ms M p z (z_th I z) (rb (I 3 p (z_th I z)) (if m = bst (I 9 z 0) then 1 else 0))) w') ∨ ((¬ (z_rg x (N 6 0) ∧ z_rg y (N 8 0)) ∨ ¬ z_rg m 4 ∨ ¬ (∀ p z, x = nI p → y = nI z → p < N 6 0 → z < N 8 0 → I 4 p z = 0)) ∧ v = some (.int 0) ∧ z_Mo G F A (z_sM M 21 0 (z_go (z_rg x (N 6 0) ∧ z_rg y (N 8 0)) (z_rg m 4) (∀ p z, x = nI p → y = nI z → p < N 6 0 → z < N 8 0 → I 4 p z = 0))) w'))) z_nx) 20 [some (.ref (A 22 0 0)), some (.int x), some (.int y), some (.int m), none, none, none, none, none, none] [] w 0 0 := by
      refine z_iconst_0 (pc := 20) dX6_solve_20 ?_
      refine z_istore4 (pc := 21) dX6_solve_21 ?_
      refine z_iload (pc := 23) dX6_solve_23 rfl ?_
      refine z_if_eq (pc := 25) (tgt := 37) dX6_solve_25 (by decide) (fun _ => ?_) (fun hn => absurd (rfl) hn)
      refine z_iconst_0 (pc := 37) dX6_solve_37 ?_
      refine z_istore5 (pc := 38) dX6_solve_38 ?_
      refine z_aload_n (pc := 40) dX6_solve_40 rfl (by first | rfl | exact z_isr_rf _) ?_
      refine z_iload (pc := 41) dX6_solve_41 rfl ?_
      refine z_iload_n (pc := 43) dX6_solve_43 rfl ?_
      refine z_callSp (pc := 44) (mX6_isMove (G := G) m) dX6_solve_44 cwX6_88 okX6_isMove rfl (by omega) rfl (Nat.le_of_ble_eq_true rfl) ?_
      refine z_iload (pc := 47) dX6_solve_47 rfl ?_
      refine z_if_eq (pc := 49) (tgt := 66) dX6_solve_49 (by decide) (fun _ => ?_) (fun hn => absurd (rfl) hn)
      refine z_iconst_0 (pc := 66) dX6_solve_66 ?_
      exact bad _ _ 0 _ 0 (z_rg x (N 6 0) ∧ z_rg y (N 8 0)) (z_rg m 4) False (fun q => hxy q.1) (by rw [z_go_1 hxy, z_go_1 hxy]) (Or.inl hxy) (z_b_f hxy).symm rfl (z_b_f (fun q => q)).symm
    refine z_aload_n (pc := 0) dX6_solve_0 rfl (by first | rfl | exact z_isr_rf _) ?_
    refine z_iload_n (pc := 1) dX6_solve_1 rfl ?_
    refine z_callVp (pc := 2) (mX6_isPlayer hM h0 (by omega) x) dX6_solve_2 cwX6_102 okX6_isPlayer rfl (hM.k22) rfl rfl (by omega) rfl (Nat.le_of_ble_eq_true rfl) ?_
    refine z_if_eq (pc := 5) (tgt := 20) dX6_solve_5 (by decide) (fun hc => ?_) (fun hc => ?_)
    · exact t21
    · refine z_aload_n (pc := 8) dX6_solve_8 rfl (by first | rfl | exact z_isr_rf _) ?_
      refine z_iload_n (pc := 9) dX6_solve_9 rfl ?_
      refine z_callVp (pc := 10) (mX6_isPuzzle hM h13 (by omega) y) dX6_solve_10 cwX6_138 okX6_isPuzzle rfl (hM.k22) rfl rfl (by omega) rfl (Nat.le_of_ble_eq_true rfl) ?_
      refine z_if_eq (pc := 13) (tgt := 20) dX6_solve_13 (by decide) (fun hd => ?_) (fun hd => ?_)
      · exact t21
      · exact absurd ⟨z_b_1 hc, z_b_1 hd⟩ hxy
end MPZ

