/-! a line's words -/
theorem z_numf : ∀ c, c < 60 → ∀ s, s < 121 → Op.cmpValue (FP.fcmp (FP.fdiv (FP.i2f (nI s)) (FP.i2f (nI (c + 1)))) (FP.fdiv (FP.i2f (nI s)) (FP.i2f (nI (c + 1))))) .l = 0 := by decide +kernel
theorem z_numf0 : Op.cmpValue (FP.fcmp FP.fconst0 FP.fconst0) .l = 0 := by decide +kernel
theorem z_numf2 : Op.cmpValue (FP.fcmp (3221225472 : UInt32) 3221225472) .l = 0 := by decide +kernel
theorem z_shlm : ∀ n, n < 6 → ∀ m, m < 4 → nI m <<< ((2 * nI n) &&& 31) = nI (m * 4 ^ n) := by decide +kernel
theorem z_ln_n {x y : Int32} (h : ∀ l n : Nat, 1 ≤ n → n ≤ 6 → l < 4 ^ n → l < 2 ^ 31 → x = nI l → y = nI n → False) : ¬ z_ln x y := fun ⟨l, n, h1, h6, hl, e, e'⟩ => h l n h1 h6 hl (by have := z_p4 n (by omega); omega) e e'
theorem z_al_up {I : z_TI} {n l m : Nat} (h : z_al I (n + 1) (l + m * 4 ^ n)) : z_al I n l := fun k a b => by
  have := h k a (by omega)
  have e : (4 : Nat) ^ n = 4 ^ (n - k) * 4 ^ k := by rw [← Nat.pow_add, Nat.sub_add_cancel b]
  rw [e, ← Nat.mul_assoc, Nat.add_mul_mod_self_right] at this
  exact this
section LB
variable {G : z_G} {F : Nat → Prop} {a0 : Nat} {ws w : z_W} {I : z_TI} {N : z_TN} {oc : Option Nat} {B : z_TB}
theorem iL_line6 (hV : z_V G F a0 ws I N oc B w) {l n c S : Nat} (h1 : 1 ≤ n) (h6 : n ≤ 6) (hc : c ≤ 60) (hS : S ≤ c) {x4 x5 x6 x8 x10 x11 : Option Value} : z_E G zL_line 9 (z_mq G (z_rp (.int 1) w) z_nx) 240 [some (.ref a0), some (.int (nI l)), some (.int (nI n)), some (.int (nI c)), x4, x5, x6, some (.int 1), x8, some (.int (nI S)), x10, x11] [] w 5 30 := by
  have hp4 := z_p4 n (by omega)
  have n1 : ¬ z_ln (nI (4 ^ n)) (nI n) := z_ln_n (fun l' n' a b c' d e e' => by
    have e1 := nI_inj (by omega) (by omega) e'
    subst e1
    have := nI_inj hp4 d e
    omega)
  have n2 : ¬ z_ln (-1) (nI n) := z_ln_n (fun l' n' a b c' d e e' => nI_pos d (by rw [← e]; decide))
  have n3 : ¬ z_ln 0 7 := z_ln_n (fun l' n' a b c' d e e' => by have := nI_inj (a := 7) (b := n') (by omega) (by omega) e'; omega)
  have n4 : ¬ z_ln 0 0 := z_ln_n (fun l' n' a b c' d e e' => by have := nI_inj (a := 0) (b := n') (by omega) (by omega) e'; omega)
  have n5 : ¬ z_ln 4 1 := z_ln_n (fun l' n' a b c' d e e' => by
    have e1 := nI_inj (a := 1) (b := n') (by omega) (by omega) e'
    subst e1
    have := nI_inj (a := 4) (b := l') (by omega) d e
    omega)
  refine z_iload (pc := 240) dL_line_240 rfl ?_
  refine z_if_eq (pc := 242) (tgt := 316) dL_line_242 (by decide) (fun hn => absurd hn (by decide)) (fun _ => ?_)
  refine z_iload (pc := 245) dL_line_245 rfl ?_
  refine z_iload_n (pc := 247) dL_line_247 rfl ?_
  refine z_icmp_gt (pc := 248) (tgt := 316) dL_line_248 (by decide) (fun hn => absurd hn (fun z => absurd ((nI_ltI (by omega) (by omega)).1 z) (by omega))) (fun _ => ?_)
  refine z_aload_n (pc := 251) dL_line_251 rfl (by first | rfl | exact z_isr_rf _) ?_
  refine z_iconst_1 (pc := 252) dL_line_252 ?_
  refine z_iconst_2 (pc := 253) dL_line_253 ?_
  refine z_iload_n (pc := 254) dL_line_254 rfl ?_
  refine z_imul (pc := 255) dL_line_255 ?_
  refine z_ishl (pc := 256) dL_line_256 ?_
  rw [z_shl n (by omega)]
  refine z_iload_n (pc := 257) dL_line_257 rfl ?_
  refine z_callSXp (pc := 258) (wL_results hV (nI (4 ^ n)) (nI n)) dL_line_258 cwL_116 okL_results rfl (by omega) rfl (Nat.le_of_ble_eq_true rfl) (by omega) (by omega) ?_
  rw [z_if_f n1]
  refine z_ldc (pc := 261) dL_line_261 cc18 ?_
  refine z_icmp_ne (pc := 263) (tgt := 316) dL_line_263 (by decide) (fun hn => absurd (rfl) hn) (fun _ => ?_)
  refine z_aload_n (pc := 266) dL_line_266 rfl (by first | rfl | exact z_isr_rf _) ?_
  refine z_iconst_m1 (pc := 267) dL_line_267 ?_
  refine z_iload_n (pc := 268) dL_line_268 rfl ?_
  refine z_callSXp (pc := 269) (wL_points hV (-1) (nI n)) dL_line_269 cwL_118 okL_points rfl (by omega) rfl (Nat.le_of_ble_eq_true rfl) (by omega) (by omega) ?_
  rw [z_if_f n2]
  refine z_ldc (pc := 272) dL_line_272 cc18 ?_
  refine z_icmp_ne (pc := 274) (tgt := 316) dL_line_274 (by decide) (fun hn => absurd (rfl) hn) (fun _ => ?_)
  refine z_aload_n (pc := 277) dL_line_277 rfl (by first | rfl | exact z_isr_rf _) ?_
  refine z_iconst_0 (pc := 278) dL_line_278 ?_
  refine z_bipush_7 (pc := 279) dL_line_279 ?_
  refine z_callSXp (pc := 281) (wL_isDropped hV 0 7) dL_line_281 cwL_122 okL_isDropped rfl (by omega) rfl (Nat.le_of_ble_eq_true rfl) (by omega) (by omega) ?_
  rw [z_if_f n3]
  refine z_ldc (pc := 284) dL_line_284 cc18 ?_
  refine z_icmp_ne (pc := 286) (tgt := 316) dL_line_286 (by decide) (fun hn => absurd (rfl) hn) (fun _ => ?_)
  refine z_aload_n (pc := 289) dL_line_289 rfl (by first | rfl | exact z_isr_rf _) ?_
  refine z_iconst_0 (pc := 290) dL_line_290 ?_
  refine z_iconst_0 (pc := 291) dL_line_291 ?_
  refine z_callSXp (pc := 292) (wL_pointsOfGames hV 0 0) dL_line_292 cwL_120 okL_pointsOfGames rfl (by omega) rfl (Nat.le_of_ble_eq_true rfl) (by omega) (by omega) ?_
  rw [z_if_f n4]
  refine z_ldc (pc := 295) dL_line_295 cc18 ?_
  refine z_icmp_ne (pc := 297) (tgt := 316) dL_line_297 (by decide) (fun hn => absurd (rfl) hn) (fun _ => ?_)
  refine z_aload_n (pc := 300) dL_line_300 rfl (by first | rfl | exact z_isr_rf _) ?_
  refine z_iconst_4 (pc := 301) dL_line_301 ?_
  refine z_iconst_1 (pc := 302) dL_line_302 ?_
  refine z_callSXp (pc := 303) (wL_mean hV 4 1) dL_line_303 cwL_124 okL_mean rfl (by omega) rfl (Nat.le_of_ble_eq_true rfl) (by omega) (by omega) ?_
  rw [z_if_f n5]
  refine z_ldcf (pc := 306) dL_line_306 cc82 ?_
  refine z_fcmp (pc := 308) dL_line_308 ?_
  refine z_if_ne (pc := 309) (tgt := 316) dL_line_309 (by decide) (fun hn => absurd (z_numf2) hn) (fun _ => ?_)
  refine z_iconst_1 (pc := 312) dL_line_312 ?_
  refine z_goto (pc := 313) (tgt := 317) dL_line_313 (by decide) ?_
  refine z_zret (pc := 317) dL_line_317 rfl (Or.inr rfl ) ( ⟨rfl, rfl⟩)
theorem iL_line5 (hV : z_V G F a0 ws I N oc B w) {l n m S cm : Nat} (h1 : 1 ≤ n) (h6 : n < 6) (hl : l < 4 ^ n) (hm : m < 4) (hcm : I 11 (n + 1) (l + m * 4 ^ n) = nI cm) {Z : z_Gq} {x3 x4 x5 x8 x11 : Option Value} {k q : Nat} (hk : 2 ≤ k) (hq : 12 ≤ q) (kk : ∀ x11, z_E G zL_line 9 Z 168 [some (.ref a0), some (.int (nI l)), some (.int (nI n)), x3, x4, x5, some (.int (z_b (¬ z_al I n l))), some (.int 1), x8, some (.int (nI (S + cm))), some (.int (nI (m + 1))), x11] [] w (k - 2) (q - 12)) :
    z_E G zL_line 9 Z 168 [some (.ref a0), some (.int (nI l)), some (.int (nI n)), x3, x4, x5, some (.int (z_b (¬ z_al I n l))), some (.int 1), x8, some (.int (nI S)), some (.int (nI m)), x11] [] w k q := by
  have hp : l + m * 4 ^ n < 4 ^ (n + 1) := by
    have : m * 4 ^ n ≤ 3 * 4 ^ n := Nat.mul_le_mul_right _ (by omega)
    rw [Nat.pow_succ]
    omega
  have hp4 := z_p4 (n + 1) (by omega)
  have hln : z_ln (nI (l + m * 4 ^ n)) (nI (n + 1)) := ⟨_, _, by omega, by omega, hp, rfl, rfl⟩
  have fin : ∀ k' q', k - 2 ≤ k' → q - 12 ≤ q' → z_E G zL_line 9 Z 227 [some (.ref a0), some (.int (nI l)), some (.int (nI n)), x3, x4, x5, some (.int (z_b (¬ z_al I n l))), some (.int 1), x8, some (.int (nI (S + cm))), some (.int (nI m)), some (.int (nI (l + m * 4 ^ n)))] [] w k' q' := by
    intro k' q' a b
    refine z_iconst_1 (pc := 227) dL_line_227 ?_
    refine z_goto (pc := 228) (tgt := 232) dL_line_228 (by decide) ?_
    refine z_istore7 (pc := 232) dL_line_232 ?_
    refine z_iinc10 (pc := 234) dL_line_234 ?_
    refine z_goto (pc := 237) (tgt := 168) dL_line_237 (by decide) ?_
    rw [nI_1]
    exact z_E.mono a b (kk _)
  refine z_iload (pc := 168) dL_line_168 rfl ?_
  refine z_iconst_4 (pc := 170) dL_line_170 ?_
  refine z_icmp_ge (pc := 171) (tgt := 240) dL_line_171 (by decide) (fun hn => absurd hn (fun z => absurd ((nI_leI (a := 4) (by omega) (by omega)).1 z) (by omega))) (fun _ => ?_)
  refine z_iload_n (pc := 174) dL_line_174 rfl ?_
  refine z_bipush_6 (pc := 175) dL_line_175 ?_
  refine z_icmp_ge (pc := 177) (tgt := 240) dL_line_177 (by decide) (fun hn => absurd hn (fun z => absurd ((nI_leI (a := 6) (by omega) (by omega)).1 z) (by omega))) (fun _ => ?_)
  refine z_iload_n (pc := 180) dL_line_180 rfl ?_
  refine z_iload (pc := 181) dL_line_181 rfl ?_
  refine z_iconst_2 (pc := 183) dL_line_183 ?_
  refine z_iload_n (pc := 184) dL_line_184 rfl ?_
  refine z_imul (pc := 185) dL_line_185 ?_
  refine z_ishl (pc := 186) dL_line_186 ?_
  rw [z_shlm n h6 m hm]
  refine z_iadd (pc := 187) dL_line_187 ?_
  rw [nI_add]
  refine z_istore11 (pc := 188) dL_line_188 ?_
  refine z_iload (pc := 190) dL_line_190 rfl ?_
  refine z_aload_n (pc := 192) dL_line_192 rfl (by first | rfl | exact z_isr_rf _) ?_
  refine z_iload (pc := 193) dL_line_193 rfl ?_
  refine z_iload_n (pc := 195) dL_line_195 rfl ?_
  refine z_iconst_1 (pc := 196) dL_line_196 ?_
  refine z_iadd (pc := 197) dL_line_197 ?_
  rw [nI_1]
  refine z_callSXp (pc := 198) (wL_results hV (nI (l + m * 4 ^ n)) (nI (n + 1))) dL_line_198 cwL_116 okL_results rfl (by omega) rfl (Nat.le_of_ble_eq_true rfl) (by omega) (by omega) ?_
  rw [z_if_t hln, nI_clamp (show l + m * 4 ^ n < 2 ^ 31 by omega), nI_clamp (show n + 1 < 2 ^ 31 by omega), hcm]
  refine z_iadd (pc := 201) dL_line_201 ?_
  rw [nI_add]
  refine z_istore9 (pc := 202) dL_line_202 ?_
  refine z_iload (pc := 204) dL_line_204 rfl ?_
  refine z_if_eq (pc := 206) (tgt := 231) dL_line_206 (by decide) (fun hn => absurd hn (by decide)) (fun _ => ?_)
  refine z_iload (pc := 209) dL_line_209 rfl ?_
  by_cases al : z_al I n l
  · refine z_if_eq (pc := 211) (tgt := 227) dL_line_211 (by decide) (fun _ => ?_) (fun hn => absurd (z_b_f (fun z => z al)) hn)
    exact fin _ _ (by omega) (by omega)
  · refine z_if_eq (pc := 211) (tgt := 227) dL_line_211 (by decide) (fun hn => absurd hn (fun z => z_b_0 z al)) (fun _ => ?_)
    refine z_aload_n (pc := 214) dL_line_214 rfl (by first | rfl | exact z_isr_rf _) ?_
    refine z_iload (pc := 215) dL_line_215 rfl ?_
    refine z_iload_n (pc := 217) dL_line_217 rfl ?_
    refine z_iconst_1 (pc := 218) dL_line_218 ?_
    refine z_iadd (pc := 219) dL_line_219 ?_
    rw [nI_1]
    refine z_callSXp (pc := 220) (wL_isDropped hV (nI (l + m * 4 ^ n)) (nI (n + 1))) dL_line_220 cwL_122 okL_isDropped rfl (by omega) rfl (Nat.le_of_ble_eq_true rfl) (by omega) (by omega) ?_
    rw [z_if_t hln, nI_clamp (show l + m * 4 ^ n < 2 ^ 31 by omega), nI_clamp (show n + 1 < 2 ^ 31 by omega), z_b_t (fun z => al (z_al_up z))]
    refine z_iconst_1 (pc := 223) dL_line_223 ?_
    refine z_icmp_ne (pc := 224) (tgt := 231) dL_line_224 (by decide) (fun hn => absurd (rfl) hn) (fun _ => ?_)
    exact fin _ _ (by omega) (by omega)
theorem iL_line4 (hV : z_V G F a0 ws I N oc B w) {l n c : Nat} (h1 : 1 ≤ n) (h6 : n ≤ 6) (hl : l < 4 ^ n) (hc : c ≤ 60) (hch : n < 6 → ∃ c1 c2 c3 c4, I 11 (n + 1) (l + 0 * 4 ^ n) = nI c1 ∧ I 11 (n + 1) (l + 1 * 4 ^ n) = nI c2 ∧ I 11 (n + 1) (l + 2 * 4 ^ n) = nI c3 ∧ I 11 (n + 1) (l + 3 * 4 ^ n) = nI c4 ∧ c1 + c2 + c3 + c4 ≤ c) {x4 x5 x7 x8 x9 x10 x11 : Option Value} : z_E G zL_line 9 (z_mq G (z_rp (.int 1) w) z_nx) 155 [some (.ref a0), some (.int (nI l)), some (.int (nI n)), some (.int (nI c)), x4, x5, some (.int (z_b (¬ z_al I n l))), x7, x8, x9, x10, x11] [] w 13 78 := by
  refine z_iconst_1 (pc := 155) dL_line_155 ?_
  refine z_goto (pc := 156) (tgt := 160) dL_line_156 (by decide) ?_
  refine z_istore7 (pc := 160) dL_line_160 ?_
  refine z_iconst_0 (pc := 162) dL_line_162 ?_
  refine z_istore9 (pc := 163) dL_line_163 ?_
  refine z_iconst_0 (pc := 165) dL_line_165 ?_
  refine z_istore10 (pc := 166) dL_line_166 ?_
  by_cases h : n < 6
  · obtain ⟨c1, c2, c3, c4, d1, d2, d3, d4, d5⟩ := hch h
    refine iL_line5 hV (m := 0) (S := 0) h1 h hl (by omega) d1 (by omega) (by omega) (fun y => ?_)
    refine iL_line5 hV (m := 1) h1 h hl (by omega) d2 (by omega) (by omega) (fun y => ?_)
    refine iL_line5 hV (m := 2) h1 h hl (by omega) d3 (by omega) (by omega) (fun y => ?_)
    refine iL_line5 hV (m := 3) h1 h hl (by omega) d4 (by omega) (by omega) (fun y => ?_)
    refine z_iload (pc := 168) dL_line_168 rfl ?_
    refine z_iconst_4 (pc := 170) dL_line_170 ?_
    refine z_icmp_ge (pc := 171) (tgt := 240) dL_line_171 (by decide) (fun _ => ?_) (fun hn => absurd (by decide) hn)
    exact iL_line6 hV h1 h6 hc (by omega)
  · have e : n = 6 := by omega
    refine z_iload (pc := 168) dL_line_168 rfl ?_
    refine z_iconst_4 (pc := 170) dL_line_170 ?_
    refine z_icmp_ge (pc := 171) (tgt := 240) dL_line_171 (by decide) (fun hn => absurd hn (by decide)) (fun _ => ?_)
    refine z_iload_n (pc := 174) dL_line_174 rfl ?_
    refine z_bipush_6 (pc := 175) dL_line_175 ?_
    refine z_icmp_ge (pc := 177) (tgt := 240) dL_line_177 (by decide) (fun _ => ?_) (fun hn => absurd (nI_le (a := 6) (by omega) (by omega)) hn)
    exact z_E.mono (by omega) (by omega) (iL_line6 hV (S := 0) h1 h6 hc (by omega))
theorem mL_line (hV : z_V G F a0 ws I N oc B w) {l n : Nat} (h1 : 1 ≤ n) (h6 : n ≤ 6) (hl : l < 4 ^ n) : z_M G zL_line 9 [.ref a0, .int (nI l), .int (nI n)] w 18 108 (z_rp (.int 1) w) z_nx := by
  obtain ⟨c, s, t, e1, e2, e3, hc, hs, ht, hst, hal, hch⟩ := hV.l h1 h6 hl
  have hp4 := z_p4 n (by omega)
  have hln : z_ln (nI l) (nI n) := ⟨l, n, h1, h6, hl, rfl, rfl⟩
  have cl := nI_clamp (show l < 2 ^ 31 by omega)
  have cn := nI_clamp (show n < 2 ^ 31 by omega)
  have e2c : (2 : Int32) * nI c = nI (2 * c) := pk_mul 2 c
  refine z_M.of (by decide +kernel) rfl (by intro v hv; simp only [List.mem_cons, List.not_mem_nil, or_false] at hv; rcases hv with rfl | rfl | rfl <;> first | rfl | exact z_isr_cat (z_isr_rf _)) (Nat.le_of_ble_eq_true rfl) ?_
  show z_E _ zL_line _ _ 0 [some (.ref a0), some (.int (nI l)), some (.int (nI n)), none, none, none, none, none, none, none, none, none] [] _ _ _
  have go4 : ∀ ow : Int32, (ow = if n % 2 = 1 then nI s else 2 * nI c - nI s) → z_E G zL_line 9 (z_mq G (z_rp (.int 1) w) z_nx) 128 [some (.ref a0), some (.int (nI l)), some (.int (nI n)), some (.int (nI c)), some (.int (nI s)), some (.int (nI t)), some (.int (z_b (¬ z_al I n l))), some (.int 1), none, none, none, none] [.int ow] w 13 78 := by
    intro ow how
    refine z_istore8 (pc := 128) dL_line_128 ?_
    refine z_iload (pc := 130) dL_line_130 rfl ?_
    refine z_if_eq (pc := 132) (tgt := 159) dL_line_132 (by decide) (fun hn => absurd hn (by decide)) (fun _ => ?_)
    refine z_iload (pc := 135) dL_line_135 rfl ?_
    by_cases al : z_al I n l
    · refine z_if_ne (pc := 137) (tgt := 155) dL_line_137 (by decide) (fun hn => absurd (z_b_f (fun z => z al)) hn) (fun _ => ?_)
      refine z_iload_n (pc := 140) dL_line_140 rfl ?_
      refine z_iconst_3 (pc := 141) dL_line_141 ?_
      by_cases c3 : c < 3
      · refine z_icmp_lt (pc := 142) (tgt := 155) dL_line_142 (by decide) (fun _ => ?_) (fun hn => absurd ((nI_ltI (b := 3) (by omega) (by omega)).2 c3) hn)
        exact iL_line4 hV h1 h6 hl hc hch
      · refine z_icmp_lt (pc := 142) (tgt := 155) dL_line_142 (by decide) (fun hn => absurd hn (nI_nlt (a := c) (b := 3) (by omega) (by omega))) (fun _ => ?_)
        refine z_iconst_3 (pc := 145) dL_line_145 ?_
        refine z_iload (pc := 146) dL_line_146 rfl ?_
        refine z_imul (pc := 148) dL_line_148 ?_
        refine z_iconst_2 (pc := 149) dL_line_149 ?_
        refine z_iload_n (pc := 150) dL_line_150 rfl ?_
        refine z_imul (pc := 151) dL_line_151 ?_
        have hb := (hal al).2
        refine z_icmp_lt (pc := 152) (tgt := 159) dL_line_152 (by decide) (fun hn => absurd hn (fun z => hb ⟨nI_le (a := 3) (by omega) (by omega), by rw [how] at z; by_cases q : n % 2 = 1; (rw [if_pos q] at z; rw [if_pos q, if_neg (by decide)]; exact z); (rw [if_neg q] at z; rw [if_neg q, if_pos rfl]; exact z)⟩)) (fun _ => ?_)
        exact iL_line4 hV h1 h6 hl hc hch
    · refine z_if_ne (pc := 137) (tgt := 155) dL_line_137 (by decide) (fun _ => ?_) (fun hn => absurd hn (fun z => z_b_0 z al))
      exact iL_line4 hV h1 h6 hl hc hch
  have go3 : z_E G zL_line 9 (z_mq G (z_rp (.int 1) w) z_nx) 108 [some (.ref a0), some (.int (nI l)), some (.int (nI n)), some (.int (nI c)), some (.int (nI s)), some (.int (nI t)), some (.int (z_b (¬ z_al I n l))), none, none, none, none, none] [.int 1] w 13 78 := by
    refine z_istore7 (pc := 108) dL_line_108 ?_
    refine z_iload_n (pc := 110) dL_line_110 rfl ?_
    refine z_iconst_2 (pc := 111) dL_line_111 ?_
    refine z_irem (pc := 112) dL_line_112 (by first | decide | assumption) ?_
    rw [show nI n - nI n / 2 * 2 = nI (n % 2) from pk_rem (d := 2) (by omega) (by decide) (by decide)]
    refine z_iconst_1 (pc := 113) dL_line_113 ?_
    by_cases q : n % 2 = 1
    · rw [q]
      refine z_icmp_ne (pc := 114) (tgt := 122) dL_line_114 (by decide) (fun hn => absurd (rfl) hn) (fun _ => ?_)
      refine z_iload (pc := 117) dL_line_117 rfl ?_
      refine z_goto (pc := 119) (tgt := 128) dL_line_119 (by decide) ?_
      exact go4 _ (if_pos q).symm
    · refine z_icmp_ne (pc := 114) (tgt := 122) dL_line_114 (by decide) (fun _ => ?_) (fun hn => absurd hn (fun z => q (nI_inj (a := n % 2) (b := 1) (by omega) (by omega) z)))
      refine z_iconst_2 (pc := 122) dL_line_122 ?_
      refine z_iload_n (pc := 123) dL_line_123 rfl ?_
      refine z_imul (pc := 124) dL_line_124 ?_
      refine z_iload (pc := 125) dL_line_125 rfl ?_
      refine z_isub (pc := 127) dL_line_127 ?_
      exact go4 _ (if_neg q).symm
  have go2 : z_E G zL_line 9 (z_mq G (z_rp (.int 1) w) z_nx) 79 [some (.ref a0), some (.int (nI l)), some (.int (nI n)), some (.int (nI c)), some (.int (nI s)), some (.int (nI t)), some (.int (z_b (¬ z_al I n l))), none, none, none, none, none] [] w 14 84 := by
    refine z_aload_n (pc := 79) dL_line_79 rfl (by first | rfl | exact z_isr_rf _) ?_
    refine z_iload_n (pc := 80) dL_line_80 rfl ?_
    refine z_iload_n (pc := 81) dL_line_81 rfl ?_
    refine z_callSXp (pc := 82) (wL_mean hV (nI l) (nI n)) dL_line_82 cwL_124 okL_mean rfl (by omega) rfl (Nat.le_of_ble_eq_true rfl) (by omega) (by omega) ?_
    rw [z_if_t hln, cl, cn]
    refine z_iload_n (pc := 85) dL_line_85 rfl ?_
    cases c with
    | zero =>
      refine z_if_ne (pc := 86) (tgt := 93) dL_line_86 (by decide) (fun hn => absurd (rfl) hn) (fun _ => ?_)
      rw [show z_mn I n l = FP.fconst0 from (by unfold z_mn; exact if_pos e1)]
      refine z_fconst0 (pc := 89) dL_line_89 ?_
      refine z_goto (pc := 90) (tgt := 99) dL_line_90 (by decide) ?_
      refine z_fcmp (pc := 99) dL_line_99 ?_
      refine z_if_ne (pc := 100) (tgt := 107) dL_line_100 (by decide) (fun hn => absurd (z_numf0) hn) (fun _ => ?_)
      refine z_iconst_1 (pc := 103) dL_line_103 ?_
      refine z_goto (pc := 104) (tgt := 108) dL_line_104 (by decide) ?_
      exact go3
    | succ c =>
      refine z_if_ne (pc := 86) (tgt := 93) dL_line_86 (by decide) (fun _ => ?_) (fun hn => absurd hn (nI_ne0 (by omega) (by omega)))
      rw [show z_mn I n l = FP.fdiv (FP.i2f (nI s)) (FP.i2f (nI (c + 1))) from (by unfold z_mn; rw [e1, e2, if_neg (nI_ne0 (by omega) (by omega))])]
      refine z_iload (pc := 93) dL_line_93 rfl ?_
      refine z_i2f (pc := 95) dL_line_95 ?_
      refine z_iload_n (pc := 96) dL_line_96 rfl ?_
      refine z_i2f (pc := 97) dL_line_97 ?_
      refine z_fdiv (pc := 98) dL_line_98 (z_nan c (by omega) s (by omega)) ?_
      refine z_fcmp (pc := 99) dL_line_99 ?_
      refine z_if_ne (pc := 100) (tgt := 107) dL_line_100 (by decide) (fun hn => absurd (z_numf c (by omega) s (by omega)) hn) (fun _ => ?_)
      refine z_iconst_1 (pc := 103) dL_line_103 ?_
      refine z_goto (pc := 104) (tgt := 108) dL_line_104 (by decide) ?_
      exact go3
  have go : z_E G zL_line 9 (z_mq G (z_rp (.int 1) w) z_nx) 38 [some (.ref a0), some (.int (nI l)), some (.int (nI n)), some (.int (nI c)), some (.int (nI s)), some (.int (nI t)), none, none, none, none, none, none] [.int (z_b (¬ z_al I n l))] w 14 84 := by
    refine z_istore6 (pc := 38) dL_line_38 ?_
    refine z_iload_n (pc := 40) dL_line_40 rfl ?_
    refine z_if_lt (pc := 41) (tgt := 107) dL_line_41 (by decide) (fun hn => absurd hn (nI_pos (by omega))) (fun _ => ?_)
    refine z_iload (pc := 44) dL_line_44 rfl ?_
    refine z_if_lt (pc := 46) (tgt := 107) dL_line_46 (by decide) (fun hn => absurd hn (nI_pos (by omega))) (fun _ => ?_)
    refine z_iload (pc := 49) dL_line_49 rfl ?_
    refine z_iconst_2 (pc := 51) dL_line_51 ?_
    refine z_iload_n (pc := 52) dL_line_52 rfl ?_
    refine z_imul (pc := 53) dL_line_53 ?_
    rw [e2c]
    refine z_icmp_gt (pc := 54) (tgt := 107) dL_line_54 (by decide) (fun hn => absurd hn (fun z => absurd ((nI_ltI (by omega) (by omega)).1 z) (by omega))) (fun _ => ?_)
    refine z_iload (pc := 57) dL_line_57 rfl ?_
    by_cases al : z_al I n l
    · refine z_if_eq (pc := 59) (tgt := 72) dL_line_59 (by decide) (fun _ => ?_) (fun hn => absurd (z_b_f (fun z => z al)) hn)
      refine z_iload (pc := 72) dL_line_72 rfl ?_
      refine z_iload (pc := 74) dL_line_74 rfl ?_
      refine z_icmp_ne (pc := 76) (tgt := 107) dL_line_76 (by decide) (fun hn => absurd (congrArg nI (hal al).1) hn) (fun _ => ?_)
      exact go2
    · refine z_if_eq (pc := 59) (tgt := 72) dL_line_59 (by decide) (fun hn => absurd hn (fun z => z_b_0 z al)) (fun _ => ?_)
      refine z_iload (pc := 62) dL_line_62 rfl ?_
      refine z_iload (pc := 64) dL_line_64 rfl ?_
      refine z_icmp_gt (pc := 66) (tgt := 107) dL_line_66 (by decide) (fun hn => absurd hn (fun z => absurd ((nI_ltI (by omega) (by omega)).1 z) (by omega))) (fun _ => ?_)
      refine z_goto (pc := 69) (tgt := 79) dL_line_69 (by decide) ?_
      exact go2
  refine z_aload_n (pc := 0) dL_line_0 rfl (by first | rfl | exact z_isr_rf _) ?_
  refine z_iload_n (pc := 1) dL_line_1 rfl ?_
  refine z_iload_n (pc := 2) dL_line_2 rfl ?_
  refine z_callSXp (pc := 3) (wL_results hV (nI l) (nI n)) dL_line_3 cwL_116 okL_results rfl (by omega) rfl (Nat.le_of_ble_eq_true rfl) (by omega) (by omega) ?_
  rw [z_if_t hln, cl, cn, e1]
  refine z_istore3 (pc := 6) dL_line_6 ?_
  refine z_aload_n (pc := 7) dL_line_7 rfl (by first | rfl | exact z_isr_rf _) ?_
  refine z_iload_n (pc := 8) dL_line_8 rfl ?_
  refine z_iload_n (pc := 9) dL_line_9 rfl ?_
  refine z_callSXp (pc := 10) (wL_points hV (nI l) (nI n)) dL_line_10 cwL_118 okL_points rfl (by omega) rfl (Nat.le_of_ble_eq_true rfl) (by omega) (by omega) ?_
  rw [z_if_t hln, cl, cn, e2]
  refine z_istore4 (pc := 13) dL_line_13 ?_
  refine z_aload_n (pc := 15) dL_line_15 rfl (by first | rfl | exact z_isr_rf _) ?_
  refine z_iload_n (pc := 16) dL_line_16 rfl ?_
  refine z_iload_n (pc := 17) dL_line_17 rfl ?_
  refine z_callSXp (pc := 18) (wL_pointsOfGames hV (nI l) (nI n)) dL_line_18 cwL_120 okL_pointsOfGames rfl (by omega) rfl (Nat.le_of_ble_eq_true rfl) (by omega) (by omega) ?_
  rw [z_if_t hln, cl, cn, e3]
  refine z_istore5 (pc := 21) dL_line_21 ?_
  refine z_aload_n (pc := 23) dL_line_23 rfl (by first | rfl | exact z_isr_rf _) ?_
  refine z_iload_n (pc := 24) dL_line_24 rfl ?_
  refine z_iload_n (pc := 25) dL_line_25 rfl ?_
  refine z_callSXp (pc := 26) (wL_isDropped hV (nI l) (nI n)) dL_line_26 cwL_122 okL_isDropped rfl (by omega) rfl (Nat.le_of_ble_eq_true rfl) (by omega) (by omega) ?_
  rw [z_if_t hln, cl, cn]
  refine z_iconst_1 (pc := 29) dL_line_29 ?_
  by_cases al : z_al I n l
  · rw [z_b_f (fun z => z al)] at go ⊢
    refine z_icmp_ne (pc := 30) (tgt := 37) dL_line_30 (by decide) (fun _ => ?_) (fun hn => absurd hn (by decide))
    refine z_iconst_0 (pc := 37) dL_line_37 ?_
    exact go
  · rw [z_b_t al] at go ⊢
    refine z_icmp_ne (pc := 30) (tgt := 37) dL_line_30 (by decide) (fun hn => absurd (rfl) hn) (fun _ => ?_)
    refine z_iconst_1 (pc := 33) dL_line_33 ?_
    refine z_goto (pc := 34) (tgt := 38) dL_line_34 (by decide) ?_
    exact go
end LB

