/-! the law -/
theorem z_S0 : z_S (fun _ _ => 0) (fun _ _ => none) z_B0 := by
  refine ⟨rfl, rfl, rfl, by decide, by decide, by decide, fun g hg => absurd hg (Nat.not_lt_zero _), fun g hg => (by cases hg), fun p q hp => absurd hp (Nat.not_lt_zero _), rfl, fun i j h => ?_, fun i j h => ?_⟩
  · have h := of_decide_eq_true h
    obtain ⟨rfl, rfl⟩ := h
    exact ⟨by decide, by decide⟩
  · have h := of_decide_eq_true h
    exact absurd h.1 (Nat.succ_ne_zero _)
theorem z_J0 : z_J (fun _ _ _ => 0) (fun _ _ => 0) (fun _ _ => none) z_B0 (fun _ _ => 0) := by
  refine ⟨z_S0, fun _ _ _ => ⟨rfl, rfl, rfl⟩, ⟨rfl, fun p hp => absurd hp (Nat.not_lt_zero _), fun p _ => ⟨rfl, rfl, fun _ _ => rfl⟩⟩, ⟨rfl, rfl, fun g hg => (by cases hg), fun g hg => absurd hg (Nat.not_lt_zero _), fun g _ => ⟨rfl, rfl⟩⟩, ⟨rfl, fun z hz => absurd hz (Nat.not_lt_zero _)⟩, fun n l _ _ _ => ⟨rfl, rfl, rfl, Or.inl rfl, 0, 0, rfl, rfl, Nat.zero_le _, Nat.zero_le _⟩, fun n l _ _ _ _ hb => ?_, fun p q hp => absurd hp (Nat.not_lt_zero _)⟩
  exact absurd hb.1 (show ¬ (3 : Int32) ≤ 0 by decide)
theorem z_K0 : z_K (fun _ _ _ => 0) (fun _ _ => 0) (fun _ _ => none) := by
  have hp : ∀ l n k, z_pg (fun _ _ _ => 0) (fun _ _ => 0) (fun _ _ => none) l n k = 0 := fun l n k => by
    induction k with
    | zero => rfl
    | succ k ih => rw [z_pg, if_neg (fun z => absurd z.1 (Nat.not_lt_zero _)), ih]
  refine ⟨fun p hp => absurd hp (Nat.not_lt_zero _), ⟨fun z z' _ h => absurd h (Nat.not_lt_zero _), fun _ => 0, fun z h => absurd h (Nat.not_lt_zero _), fun z z' _ h => absurd h (Nat.not_lt_zero _)⟩, rfl, fun n l _ _ _ => ⟨fun _ => (hp l n 60).symm, ⟨0, 0, rfl, hp l n 60, Nat.le_refl _, Nat.zero_le _⟩, fun _ => ⟨0, 0, 0, 0, 0, rfl, rfl, rfl, rfl, rfl, Nat.le_refl _, Nat.zero_le _⟩⟩⟩
section LLAW
variable {G : z_G} {F : Nat → Prop} {a0 ap aw ag : Nat}
set_option maxRecDepth 100000 in
theorem iL_law (hL : G.2.2.2.2.2.1 ≤ 260) (hF : F ap ∧ F aw ∧ F ag) (hne : ap ≠ aw ∧ ap ≠ ag ∧ aw ≠ ag) : ∀ m k : Nat, 250 - k = m → k ≤ 250 → ∀ (I : z_TI) (N : z_TN) (oc : Option Nat) (B : z_TB) (w : z_W) (x7 x8 x9 : Option Value) (ck sk : Nat), z_LX G F a0 ap aw ag I N oc B w → 260 * (250 - k) + 5040 * (31 - k / 8) ≤ ck → 1600 * (250 - k) + 30300 * (31 - k / 8) ≤ sk → z_E G zL_law 11 (z_ZL G.2.2.1) 109 [some (.ref G.2.2.2.2.1), some (.ref a0), some (.ref ap), some (.ref aw), some (.ref ag), some (.int 1), some (.int (nI k)), x7, x8, x9] [] w ck sk := by
  intro m
  induction m with
  | zero =>
    intro k hm hk I N oc B w x7 x8 x9 ck sk hX hck hsk
    refine z_iload (pc := 109) dL_law_109 rfl ?_
    refine z_sipush_250 (pc := 111) dL_law_111 ?_
    refine z_icmp_ge (pc := 114) (tgt := 271) dL_law_114 (by decide) (fun _ => ?_) (fun hn => absurd ((nI_leI (a := 250) (by omega) (by omega)).2 (by omega)) hn)
    refine z_iload (pc := 271) dL_law_271 rfl ?_
    exact z_lret dL_law_273
  | succ m ih =>
    intro k hm hk I N oc B w x7 x8 x9 ck sk hX hck hsk
    have hk2 : k < 250 := by omega
    have o1 : 260 + (260 * (250 - (k + 1)) + 5040 * (31 - k / 8)) ≤ ck := by omega
    have o2 : 1600 + (1600 * (250 - (k + 1)) + 30300 * (31 - k / 8)) ≤ sk := by omega
    have o3 : (k + 1) / 8 = if k % 8 = 7 then k / 8 + 1 else k / 8 := by split <;> omega
    have o4 : k / 8 ≤ 31 ∧ (k % 8 = 7 → k / 8 < 31) := by omega
    have dL : ∀ {I' N' oc' B' w' x7 x8 x9 ck' sk'}, z_LX G F a0 ap aw ag I' N' oc' B' w' → 260 * (250 - (k + 1)) + 5040 * (31 - (k + 1) / 8) ≤ ck' → 1600 * (250 - (k + 1)) + 30300 * (31 - (k + 1) / 8) ≤ sk' → z_E G zL_law 11 (z_ZL G.2.2.1) 265 [some (.ref G.2.2.2.2.1), some (.ref a0), some (.ref ap), some (.ref aw), some (.ref ag), some (.int 1), some (.int (nI k)), x7, x8, x9] [] w' ck' sk' := by
      intro I' N' oc' B' w' x7 x8 x9 ck' sk' hX' h1 h2
      refine z_iinc6 (pc := 265) dL_law_265 ?_
      refine z_goto (pc := 268) (tgt := 109) dL_law_268 (by decide) ?_
      rw [nI_1]
      exact ih (k + 1) (by omega) (by omega) _ _ _ _ _ _ _ _ _ _ hX' h1 h2
    refine z_iload (pc := 109) dL_law_109 rfl ?_
    refine z_sipush_250 (pc := 111) dL_law_111 ?_
    refine z_icmp_ge (pc := 114) (tgt := 271) dL_law_114 (by decide) (fun hn => absurd hn (fun z => absurd ((nI_leI (a := 250) (by omega) (by omega)).1 z) (by omega))) (fun _ => ?_)
    refine z_iload (pc := 117) dL_law_117 rfl ?_
    refine z_if_eq (pc := 119) (tgt := 271) dL_law_119 (by decide) (fun hn => absurd hn (by decide)) (fun _ => ?_)
    refine z_aload_n (pc := 122) dL_law_122 rfl (by first | rfl | exact z_isr_rf _) ?_
    refine z_iconst_2 (pc := 123) dL_law_123 ?_
    refine z_iload (pc := 124) dL_law_124 rfl ?_
    refine z_imul (pc := 126) dL_law_126 ?_
    rw [show (2 : Int32) * nI k = nI (2 * k) from pk_mul 2 k]
    refine z_callS (pc := 127) (mL_at hL (j := 2 * k) (by omega)) dL_law_127 cwL_156 okL_at rfl (by omega) rfl (Nat.le_of_ble_eq_true rfl) (by omega) (by omega) (fun _ _ h => h.elim) (fun v wN hN => ?_)
    obtain ⟨rfl, x, rfl⟩ := hN
    refine z_istore7 (pc := 130) dL_law_130 ?_
    refine z_aload_n (pc := 132) dL_law_132 rfl (by first | rfl | exact z_isr_rf _) ?_
    refine z_iconst_2 (pc := 133) dL_law_133 ?_
    refine z_iload (pc := 134) dL_law_134 rfl ?_
    refine z_imul (pc := 136) dL_law_136 ?_
    refine z_iconst_1 (pc := 137) dL_law_137 ?_
    refine z_iadd (pc := 138) dL_law_138 ?_
    rw [show (2 : Int32) * nI k = nI (2 * k) from pk_mul 2 k, nI_1]
    refine z_callS (pc := 139) (mL_at hL (j := 2 * k + 1) (by omega)) dL_law_139 cwL_156 okL_at rfl (by omega) rfl (Nat.le_of_ble_eq_true rfl) (by omega) (by omega) (fun _ _ h => h.elim) (fun v wN hN => ?_)
    obtain ⟨rfl, y, rfl⟩ := hN
    refine z_istore8 (pc := 142) dL_law_142 ?_
    refine z_aload_n (pc := 144) dL_law_144 rfl (by first | rfl | exact z_isr_rf _) ?_
    refine z_aload_n (pc := 145) dL_law_145 rfl (by first | rfl | exact z_isr_rf _) ?_
    refine z_aload_n (pc := 146) dL_law_146 rfl (by first | rfl | exact z_isr_rf _) ?_
    refine z_aload (pc := 147) dL_law_147 rfl (by first | rfl | exact z_isr_rf _) ?_
    refine z_iload (pc := 149) dL_law_149 rfl ?_
    refine z_iload (pc := 151) dL_law_151 rfl ?_
    refine z_callS (pc := 153) (mL_acts hF hne hX x y) dL_law_153 cwL_160 okL_acts rfl (by omega) rfl (Nat.le_of_ble_eq_true rfl) (by omega) (by omega) (fun _ _ h => h.elim) (fun v wN hN => ?_)
    obtain ⟨rfl, I', N', oc', B', hX'⟩ := hN
    refine z_istore5 (pc := 156) dL_law_156 ?_
    refine z_iload (pc := 158) dL_law_158 rfl ?_
    refine z_if_eq (pc := 160) (tgt := 265) dL_law_160 (by decide) (fun hn => absurd hn (by decide)) (fun _ => ?_)
    refine z_iload (pc := 163) dL_law_163 rfl ?_
    refine z_bipush_8 (pc := 165) dL_law_165 ?_
    refine z_irem (pc := 167) dL_law_167 (by first | decide | assumption) ?_
    rw [show nI k - nI k / 8 * 8 = nI (k % 8) from pk_rem (d := 8) (by omega) (by decide) (by decide)]
    refine z_bipush_7 (pc := 168) dL_law_168 ?_
    by_cases h7 : k % 8 = 7
    · rw [h7]
      rw [if_pos h7] at o3
      obtain ⟨ws, fp, fw, fg, hV, hwp, hww, hwg, hLI⟩ := hX'
      have hLI2 := hLI
      obtain ⟨htr, ⟨hw1, -⟩, h1, g0, g1, g2, g3⟩ := hLI2
      have p1 : 5034 + (260 * (250 - (k + 1)) + 5040 * (31 - (k + 1) / 8)) ≤ ck - 0 - 0 - 260 := by rw [o3]; omega
      have p2 : 30204 + (1600 * (250 - (k + 1)) + 30300 * (31 - (k + 1) / 8)) ≤ sk - 0 - 0 - 1600 := by rw [o3]; omega
      refine z_E.mono p1 p2 ?_
      generalize 260 * (250 - (k + 1)) + 5040 * (31 - (k + 1) / 8) = ck2 at dL ⊢
      generalize 1600 * (250 - (k + 1)) + 30300 * (31 - (k + 1) / 8) = sk2 at dL ⊢
      refine z_icmp_ne (pc := 170) (tgt := 265) dL_law_170 (by decide) (fun hn => absurd (rfl) hn) (fun _ => ?_)
      refine z_iconst_1 (pc := 173) dL_law_173 ?_
      refine z_iload (pc := 174) dL_law_174 rfl ?_
      refine z_bipush_9 (pc := 176) dL_law_176 ?_
      refine z_ishr (pc := 178) dL_law_178 ?_
      refine z_bipush_6 (pc := 179) dL_law_179 ?_
      refine z_callS (pc := 181) (mL_low (y >>> (9 &&& 31)) (n := 6) (by omega) (by omega)) dL_law_181 cwL_127 okL_low rfl (by omega) rfl (Nat.le_of_ble_eq_true rfl) (by omega) (by omega) (fun _ _ h => h.elim) (fun v wN hN => ?_)
      obtain ⟨rfl, n, hn, rfl⟩ := hN
      refine z_iadd (pc := 184) dL_law_184 ?_
      rw [show (1 : Int32) + nI n = nI (n + 1) from (Int32.add_comm _ _).trans (nI_1 n)]
      refine z_istore9 (pc := 185) dL_law_185 ?_
      refine z_aload_n (pc := 187) dL_law_187 rfl (by first | rfl | exact z_isr_rf _) ?_
      refine z_aload_n (pc := 188) dL_law_188 rfl (by first | rfl | exact z_isr_rf _) ?_
      refine z_aload (pc := 189) dL_law_189 rfl (by first | rfl | exact z_isr_rf _) ?_
      refine z_callS (pc := 191) (mL_pairs hF.2.1 hww hF.2.2 hwg hw1 g0 g1 hV) dL_law_191 cwL_164 okL_pairs rfl (by omega) rfl (Nat.le_of_ble_eq_true rfl) (by omega) (by omega) (fun _ _ h => h.elim) (fun v wN hN => ?_)
      obtain ⟨rfl, hV⟩ := hN
      refine z_if_eq (pc := 194) (tgt := 262) dL_law_194 (by decide) (fun hn => absurd hn (by decide)) (fun _ => ?_)
      refine z_aload_n (pc := 197) dL_law_197 rfl (by first | rfl | exact z_isr_rf _) ?_
      refine z_aload_n (pc := 198) dL_law_198 rfl (by first | rfl | exact z_isr_rf _) ?_
      refine z_aload (pc := 199) dL_law_199 rfl (by first | rfl | exact z_isr_rf _) ?_
      refine z_callSq (pc := 201) (mL_puzzles hF.1 hwp htr hF.2.2 hwg g0 g1 hV) dL_law_201 cwL_168 okL_puzzles rfl (by omega) rfl (Nat.le_of_ble_eq_true rfl) (by omega) (by omega) ?_
      refine z_if_eq (pc := 204) (tgt := 262) dL_law_204 (by decide) (fun hn => absurd hn (by decide)) (fun _ => ?_)
      refine z_aload_n (pc := 207) dL_law_207 rfl (by first | rfl | exact z_isr_rf _) ?_
      refine z_iload (pc := 208) dL_law_208 rfl ?_
      refine z_sipush_1000 (pc := 210) dL_law_210 ?_
      refine z_callS (pc := 213) (mL_low y (n := 1000) (by omega) (by omega)) dL_law_213 cwL_127 okL_low rfl (by omega) rfl (Nat.le_of_ble_eq_true rfl) (by omega) (by omega) (fun _ _ h => h.elim) (fun v wN hN => ?_)
      obtain ⟨rfl, j, hj, rfl⟩ := hN
      refine z_callSq (pc := 216) (mL_position hV hj) dL_law_216 cwL_136 okL_position rfl (by omega) rfl (Nat.le_of_ble_eq_true rfl) (by omega) (by omega) ?_
      refine z_if_eq (pc := 219) (tgt := 262) dL_law_219 (by decide) (fun hn => absurd hn (by decide)) (fun _ => ?_)
      refine z_aload_n (pc := 222) dL_law_222 rfl (by first | rfl | exact z_isr_rf _) ?_
      refine z_iload (pc := 223) dL_law_223 rfl ?_
      refine z_iconst_1 (pc := 225) dL_law_225 ?_
      refine z_iconst_2 (pc := 226) dL_law_226 ?_
      refine z_iload (pc := 227) dL_law_227 rfl ?_
      refine z_imul (pc := 229) dL_law_229 ?_
      refine z_ishl (pc := 230) dL_law_230 ?_
      rw [z_shl (n + 1) (by omega)]
      refine z_callS (pc := 231) (mL_low x (n := 4 ^ (n + 1)) (Nat.pow_pos (by omega)) (z_p4 (n + 1) (by omega))) dL_law_231 cwL_127 okL_low rfl (by omega) rfl (Nat.le_of_ble_eq_true rfl) (by omega) (by omega) (fun _ _ h => h.elim) (fun v wN hN => ?_)
      obtain ⟨rfl, l, hl, rfl⟩ := hN
      refine z_iload (pc := 234) dL_law_234 rfl ?_
      refine z_callSq (pc := 236) (mL_line hV (l := l) (n := n + 1) (by omega) (by omega) hl) dL_law_236 cwL_145 okL_line rfl (by omega) rfl (Nat.le_of_ble_eq_true rfl) (by omega) (by omega) ?_
      refine z_if_eq (pc := 239) (tgt := 262) dL_law_239 (by decide) (fun hn => absurd hn (by decide)) (fun _ => ?_)
      refine z_aload_n (pc := 242) dL_law_242 rfl (by first | rfl | exact z_isr_rf _) ?_
      refine z_iload (pc := 243) dL_law_243 rfl ?_
      refine z_iconst_3 (pc := 245) dL_law_245 ?_
      refine z_ishr (pc := 246) dL_law_246 ?_
      refine z_iconst_4 (pc := 247) dL_law_247 ?_
      refine z_callS (pc := 248) (mL_low (y >>> (3 &&& 31)) (n := 4) (by omega) (by omega)) dL_law_248 cwL_127 okL_low rfl (by omega) rfl (Nat.le_of_ble_eq_true rfl) (by omega) (by omega) (fun _ _ h => h.elim) (fun v wN hN => ?_)
      obtain ⟨rfl, l2, hl2, rfl⟩ := hN
      refine z_iconst_1 (pc := 251) dL_law_251 ?_
      refine z_callSq (pc := 252) (mL_line hV (l := l2) (n := 1) (by omega) (by omega) hl2) dL_law_252 cwL_145 okL_line rfl (by omega) rfl (Nat.le_of_ble_eq_true rfl) (by omega) (by omega) ?_
      refine z_if_eq (pc := 255) (tgt := 262) dL_law_255 (by decide) (fun hn => absurd hn (by decide)) (fun _ => ?_)
      refine z_iconst_1 (pc := 258) dL_law_258 ?_
      refine z_goto (pc := 259) (tgt := 263) dL_law_259 (by decide) ?_
      refine z_istore5 (pc := 263) dL_law_263 ?_
      exact dL ⟨ws, fp, fw, fg, hV, hwp, hww, hwg, hLI⟩ (by omega) (by omega)
    · rw [if_neg h7] at o3
      refine z_icmp_ne (pc := 170) (tgt := 265) dL_law_170 (by decide) (fun _ => ?_) (fun hn => absurd hn (fun z => h7 (nI_inj (b := 7) (by omega) (by omega) z)))
      exact dL hX' (by rw [o3]; omega) (by rw [o3]; omega)
theorem mL_start (hL : G.2.2.2.2.2.1 ≤ 260) : z_E G zL_law 11 (z_ZL G.2.2.1) 0 [some (.ref G.2.2.2.2.1), none, none, none, none, none, none, none, none, none] [] (fun _ => none) 806515 6681922 := by
  refine z_E.mono (k := 230000) (n := 1400000) (Nat.le_of_ble_eq_true rfl) (Nat.le_of_ble_eq_true rfl) ?_
  refine nwL_11 (pc := 0) rfl dL_law_0 (by omega) (by omega) (fun q hq => ?_)
  refine z_dup (pc := 3) dL_law_3 (by first | rfl | exact z_isr_cat (z_isr_rf _)) ?_
  refine z_callI (pc := 4) (mX5_init (z_upS _ _ _)) dL_law_4 cwL_155 okX5_init rfl (by omega) rfl (Nat.le_of_ble_eq_true rfl) (by omega) (by omega) (fun _ _ h => h.elim) (fun v wN hN => ?_)
  obtain ⟨rfl, A, hA0, hC, hkp, hAn⟩ := hN
  have hV0 : z_V G (fun _ => False) q (fun _ => none) (fun _ _ _ => 0) (fun _ _ => 0) none z_B0 wN := ⟨A, _, _, hA0, rfl, z_J0, z_K0, hC, fun a ha => ha.elim⟩
  refine z_astore1 (pc := 7) dL_law_7 (by first | rfl | exact z_isr_rf _) ?_
  refine z_bipush_16 (pc := 8) dL_law_8 ?_
  refine z_newaI (m0 := 16) (pc := 10) dL_law_10 ac_int (by decide) (by decide) (Nat.le_of_ble_eq_true rfl) (by omega) (by omega) (fun ap hap => ?_)
  refine z_genN hV0 hap (fun ws1 w1 hV1 e1 o1 n1 => ?_)
  refine z_astore2 (pc := 12) dL_law_12 (by first | rfl | exact z_isr_rf _) ?_
  refine z_bipush_8 (pc := 13) dL_law_13 ?_
  refine z_newaI (m0 := 8) (pc := 15) dL_law_15 ac_int (by decide) (by decide) (Nat.le_of_ble_eq_true rfl) (by omega) (by omega) (fun aw haw => ?_)
  refine z_genN hV1 haw (fun ws2 w2 hV2 e2 o2 n2 => ?_)
  refine z_astore3 (pc := 17) dL_law_17 (by first | rfl | exact z_isr_rf _) ?_
  refine z_bipush_7 (pc := 18) dL_law_18 ?_
  refine z_newaI (m0 := 7) (pc := 20) dL_law_20 ac_int (by decide) (by decide) (Nat.le_of_ble_eq_true rfl) (by omega) (by omega) (fun ag hag => ?_)
  refine z_genN hV2 hag (fun ws3 w3 hV3 e3 o3 n3 => ?_)
  have F1p : (False ∨ ap = ap) := Or.inr rfl
  have F2p : (False ∨ ap = ap) ∨ ap = aw := Or.inl F1p
  have F2w : (False ∨ aw = ap) ∨ aw = aw := Or.inr rfl
  have npw : ap ≠ aw := n2 ap F1p
  have npg : ap ≠ ag := n3 ap F2p
  have nwg : aw ≠ ag := n3 aw F2w
  have hwp : ws3 ap = some (.inl (G.2.1 0, 16, .inl (fun _ => 0))) := (o3 ap F2p).trans ((o2 ap F1p).trans e1)
  have hww : ws3 aw = some (.inl (G.2.1 0, 8, .inl (fun _ => 0))) := (o3 aw F2w).trans e2
  obtain ⟨fs0, hk0⟩ := hV3.k0
  refine z_astore4 (pc := 22) dL_law_22 (by first | rfl | exact z_isr_rf _) ?_
  refine z_aload_n (pc := 24) dL_law_24 rfl (by first | rfl | exact z_isr_rf _) ?_
  refine z_callVp (pc := 25) (vX_games hV3) dL_law_25 cwL_149 okX5_games rfl (hk0) rfl rfl (by omega) rfl (Nat.le_of_ble_eq_true rfl) ?_
  refine z_if_ne (pc := 28) (tgt := 98) dL_law_28 (by decide) (fun hn => absurd (rfl) hn) (fun _ => ?_)
  refine z_aload_n (pc := 31) dL_law_31 rfl (by first | rfl | exact z_isr_rf _) ?_
  refine z_callVp (pc := 32) (vX_puzzles hV3) dL_law_32 cwL_105 okX5_puzzles rfl (hk0) rfl rfl (by omega) rfl (Nat.le_of_ble_eq_true rfl) ?_
  refine z_if_ne (pc := 35) (tgt := 98) dL_law_35 (by decide) (fun hn => absurd (rfl) hn) (fun _ => ?_)
  refine z_aload_n (pc := 38) dL_law_38 rfl (by first | rfl | exact z_isr_rf _) ?_
  refine z_callVp (pc := 39) (vX_position hV3) dL_law_39 cwL_133 okX5_position rfl (hk0) rfl rfl (by omega) rfl (Nat.le_of_ble_eq_true rfl) ?_
  rw [show z_po (fun _ _ _ => 0) none = -1 from rfl]
  refine z_iconst_m1 (pc := 42) dL_law_42 ?_
  refine z_icmp_ne (pc := 43) (tgt := 98) dL_law_43 (by decide) (fun hn => absurd (rfl) hn) (fun _ => ?_)
  refine z_aload_n (pc := 46) dL_law_46 rfl (by first | rfl | exact z_isr_rf _) ?_
  refine z_callSX (pc := 47) (wL_enter hV3) dL_law_47 cwL_130 okL_enter rfl (by omega) rfl (Nat.le_of_ble_eq_true rfl) (by omega) (by omega) (fun v wN hN => ?_)
  rcases hN with ⟨-, rfl, hV⟩ | ⟨h, -⟩
  · have e0 : z_NP (fun _ _ => 0) 0 0 = 1 := by simp [z_NP, z_sN]
    have hop : z_op (z_IP (fun _ _ _ => 0) 0) (z_NP (fun _ _ => 0)) 0 = none := by
      cases hq : z_op (z_IP (fun _ _ _ => 0) 0) (z_NP (fun _ _ => 0)) 0 with
      | none => rfl
      | some q' =>
        obtain ⟨h1, h2, -⟩ := hV.p.1 0 q' (by rw [e0]; omega) hq
        rw [e0] at h1
        omega
    have r0 : z_rg 0 (z_NP (fun _ _ => 0) 0 0) := ⟨0, by rw [e0]; omega, rfl⟩
    have r1 : ¬ z_rg 1 (z_NP (fun _ _ => 0) 0 0) := z_rg_ge (by rw [e0]; omega) (by rw [e0]; decide)
    refine z_if_ne (pc := 50) (tgt := 98) dL_law_50 (by decide) (fun hn => absurd (rfl) hn) (fun _ => ?_)
    refine z_aload_n (pc := 53) dL_law_53 rfl (by first | rfl | exact z_isr_rf _) ?_
    refine z_iconst_0 (pc := 54) dL_law_54 ?_
    refine z_callSX (pc := 55) (wL_opponent hV 0) dL_law_55 cwL_99 okL_opponent rfl (by omega) rfl (Nat.le_of_ble_eq_true rfl) (by omega) (by omega) (fun v wN hN => ?_)
    obtain ⟨rfl, hV⟩ := hN
    rw [z_if_t r0, z_c0, show z_fi (z_op (z_IP (fun _ _ _ => 0) ((fun _ _ => 0 : z_TN) 0 0)) (z_NP (fun _ _ => 0)) 0) = -1 from by rw [show (fun _ _ => 0 : z_TN) 0 0 = 0 from rfl, hop]; rfl]
    refine z_iconst_m1 (pc := 58) dL_law_58 ?_
    refine z_icmp_ne (pc := 59) (tgt := 98) dL_law_59 (by decide) (fun hn => absurd (rfl) hn) (fun _ => ?_)
    refine z_aload_n (pc := 62) dL_law_62 rfl (by first | rfl | exact z_isr_rf _) ?_
    refine z_iconst_0 (pc := 63) dL_law_63 ?_
    refine z_callSX (pc := 64) (wL_hasWhite hV 0) dL_law_64 cwL_103 okL_hasWhite rfl (by omega) rfl (Nat.le_of_ble_eq_true rfl) (by omega) (by omega) (fun v wN hN => ?_)
    obtain ⟨rfl, hV⟩ := hN
    rw [z_if_t r0, z_c0, show z_hwo (z_IP (fun _ _ _ => 0) ((fun _ _ => 0 : z_TN) 0 0)) (z_NP (fun _ _ => 0)) 0 = -1000003 from by unfold z_hwo; rw [show (fun _ _ => 0 : z_TN) 0 0 = 0 from rfl, hop]]
    refine z_ldc (pc := 67) dL_law_67 cc32 ?_
    refine z_icmp_ne (pc := 69) (tgt := 98) dL_law_69 (by decide) (fun hn => absurd (rfl) hn) (fun _ => ?_)
    refine z_aload_n (pc := 72) dL_law_72 rfl (by first | rfl | exact z_isr_rf _) ?_
    refine z_iconst_0 (pc := 73) dL_law_73 ?_
    refine z_iconst_0 (pc := 74) dL_law_74 ?_
    refine z_callSX (pc := 75) (wL_begin hV 0 0) dL_law_75 cwL_141 okL_begin rfl (by omega) rfl (Nat.le_of_ble_eq_true rfl) (by omega) (by omega) (fun v wN hN => ?_)
    rcases hN with ⟨p1, p2, -, -, -, -, h2, -⟩ | ⟨rfl, ⟨h2, -⟩ | ⟨-, -, rfl⟩ | ⟨-, h2, -⟩⟩
    · exact absurd rfl h2
    · exact absurd ⟨r0, r0⟩ h2
    · refine z_ldc (pc := 78) dL_law_78 cc18 ?_
      refine z_icmp_ne (pc := 80) (tgt := 98) dL_law_80 (by decide) (fun hn => absurd (rfl) hn) (fun _ => ?_)
      refine z_aload_n (pc := 83) dL_law_83 rfl (by first | rfl | exact z_isr_rf _) ?_
      refine z_iconst_0 (pc := 84) dL_law_84 ?_
      refine z_iconst_1 (pc := 85) dL_law_85 ?_
      refine z_callSX (pc := 86) (wL_begin hV 0 1) dL_law_86 cwL_141 okL_begin rfl (by omega) rfl (Nat.le_of_ble_eq_true rfl) (by omega) (by omega) (fun v wN hN => ?_)
      rcases hN with ⟨p1, p2, -, hp2, -, e9, -⟩ | ⟨rfl, ⟨-, rfl⟩ | ⟨h2, -⟩ | ⟨h2, -⟩⟩
      · exact absurd ⟨p2, hp2, e9⟩ r1
      · refine z_ldc (pc := 89) dL_law_89 cc38 ?_
        refine z_icmp_ne (pc := 91) (tgt := 98) dL_law_91 (by decide) (fun hn => absurd (rfl) hn) (fun _ => ?_)
        refine z_iconst_1 (pc := 94) dL_law_94 ?_
        refine z_goto (pc := 95) (tgt := 99) dL_law_95 (by decide) ?_
        refine z_istore5 (pc := 99) dL_law_99 ?_
        refine z_aload (pc := 101) dL_law_101 rfl (by first | rfl | exact z_isr_rf _) ?_
        refine z_iconst_0 (pc := 103) dL_law_103 ?_
        refine z_iconst_1 (pc := 104) dL_law_104 ?_
        refine z_iast (pc := 105) dL_law_105 ((hV.at (Or.inr rfl)).trans e3) (z_v0) ?_
        rw [z_c0]
        refine z_genU hV (Or.inr rfl) (fun ws4 w4 hV4 e4 o4 => ?_)
        refine z_iconst_0 (pc := 106) dL_law_106 ?_
        refine z_istore6 (pc := 107) dL_law_107 ?_
        have hLI : z_LI (z_IP (fun _ _ _ => 0) 0) (z_NP (fun _ _ => 0)) none (fun _ => 0) (fun _ => 0) (upd (fun _ => 0) 0 1) := by
          refine ⟨⟨fun _ => 0, fun i hi => ⟨rfl, Nat.two_pow_pos 20⟩, fun _ _ _ => rfl, fun p hp z hz => ?_⟩, ⟨fun p hp => ?_, fun _ _ _ => rfl⟩, by rw [e0]; omega, by rw [e0]; rfl, rfl, rfl, fun g hg => (by cases hg)⟩
          · rw [e0] at hp
            have : p = 0 := by omega
            subst this
            have : z_IP (fun _ _ _ => 0) 0 4 0 z = 0 := by simp [z_IP, z_sF]
            rw [this]
            simp
          · rw [e0] at hp
            have : p = 0 := by omega
            subst this
            simp [z_IP, z_sF]
        exact iL_law hL ⟨Or.inl F2p, Or.inl F2w, Or.inr rfl⟩ ⟨npw, npg, nwg⟩ 250 0 rfl (by omega) _ _ _ _ _ _ _ _ _ _ ⟨ws4, _, _, _, hV4, (o4 ap npg).trans hwp, (o4 aw nwg).trans hww, e4, hLI⟩ (by omega) (by omega)
      · exact absurd h2.2 r1
      · exact absurd h2.2 r1
    · exact absurd rfl h2
  · exact absurd (show (0 : Nat) < 8 by omega) h
end LLAW

