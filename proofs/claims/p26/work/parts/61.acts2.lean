/-! a move -/
theorem z_bl2 {x m : Int32} (hx : z_rg x 1000) (hm : z_rg m 4) : blC x m = if wo (nx x (bst x)) < wo (nx x m) + 40 then 0 else 1 := by
  unfold blC
  have h1 := z_wog (z_nxg hx (z_bstg x))
  have h2 := z_wog (z_nxg hx hm)
  have e40 : (40 : Int32).toInt = 40 := by decide
  have h3 : (wo (nx x m) + 40).toInt = (wo (nx x m)).toInt + 40 := by
    rw [Int32.toInt_add, e40]
    exact Int.bmod_eq_of_le (by omega) (by omega)
  have e : (wo (nx x (bst x)) - wo (nx x m) < 40) ↔ (wo (nx x (bst x)) < wo (nx x m) + 40) := by
    rw [Int32.lt_iff_toInt_lt, Int32.lt_iff_toInt_lt, z_sub2 h1 h2, h3, e40]
    omega
  by_cases h : wo (nx x (bst x)) - wo (nx x m) < 40
  · rw [if_pos h, if_pos (e.1 h)]
  · rw [if_neg h, if_neg (fun z => h (e.2 z))]
section LMV
variable {I : z_TI} {N : z_TN} {fp fw fg : Nat → Int32} {g its : Nat} {v : Int32}
theorem z_mv_px (hi : its < 4) : z_px (z_mvs (z_sI (z_sI I 8 g (N 5 g) (nI its)) 6 g 0 v) g) (z_kn (z_sN N 5 g (N 5 g + 1)) g) = if N 5 g < 6 then z_px (z_mvs I g) (z_kn N g) + its * 4 ^ N 5 g else z_px (z_mvs I g) (z_kn N g) := by
  have e : ∀ i, i ≠ N 5 g → z_mvs (z_sI (z_sI I 8 g (N 5 g) (nI its)) 6 g 0 v) g i = z_mvs I g i := fun i h => by
    unfold z_mvs; rw [z_sI_f _ _ _ _ (by decide), z_sI_j _ _ _ _ h]
  have e2 : z_mvs (z_sI (z_sI I 8 g (N 5 g) (nI its)) 6 g 0 v) g (N 5 g) = its := by
    unfold z_mvs; rw [z_sI_f _ _ _ _ (by decide), z_sI_s, nI_clamp (by omega)]
  by_cases h : N 5 g < 6
  · rw [if_pos h]
    have k1 : z_kn (z_sN N 5 g (N 5 g + 1)) g = N 5 g + 1 := by unfold z_kn; rw [z_sN_s]; split <;> omega
    have k2 : z_kn N g = N 5 g := by unfold z_kn; rw [if_pos h]
    rw [k1, k2, z_px, e2, z_px_c (N 5 g) (fun i hi => e i (by omega))]
  · rw [if_neg h]
    have k1 : z_kn (z_sN N 5 g (N 5 g + 1)) g = 6 := by unfold z_kn; rw [z_sN_s]; split <;> omega
    have k2 : z_kn N g = 6 := by unfold z_kn; rw [if_neg h]
    rw [k1, k2, z_px_c 6 (fun i hi => e i (by omega))]
theorem z_LI.move (h : z_LI I N (some g) fp fw fg) {v4 : Int32} (h4 : v4 = nI (z_px (z_mvs (z_sI (z_sI I 8 g (N 5 g) (nI its)) 6 g 0 v) g) (z_kn (z_sN N 5 g (N 5 g + 1)) g))) : z_LI (z_sI (z_sI I 8 g (N 5 g) (nI its)) 6 g 0 v) (z_sN N 5 g (N 5 g + 1)) (some g) fp fw (upd (upd fg 4 v4) 3 (nI (N 5 g + 1))) := by
  obtain ⟨⟨T, t1, t2, t3⟩, ⟨hw1, hw2⟩, h1, g0, g1, g2, g3⟩ := h
  have eI : ∀ f, f ≠ 6 → f ≠ 8 → z_sI (z_sI I 8 g (N 5 g) (nI its)) 6 g 0 v f = I f := fun f a b => by rw [z_sI_f _ _ _ _ a, z_sI_f _ _ _ _ b]
  have eo : ∀ f, f ≠ 5 → z_sN N 5 g (N 5 g + 1) f = N f := fun f a => z_sN_f _ _ _ a
  have u : ∀ i, i ≠ 3 → i ≠ 4 → upd (upd fg 4 v4) 3 (nI (N 5 g + 1)) i = fg i := fun i a b => (z_upd_n _ _ a).trans (z_upd_n _ _ b)
  unfold z_LI z_tr
  rw [eI 4 (by decide) (by decide), eI 0 (by decide) (by decide), eI 1 (by decide) (by decide), eo 0 (by decide), u 0 (by decide) (by decide), u 1 (by decide) (by decide), u 2 (by decide) (by decide), u 5 (by decide) (by decide), u 6 (by decide) (by decide), z_upd_s, z_upd_n _ _ (show (4 : Nat) ≠ 3 by decide), z_upd_s]
  refine ⟨⟨T, t1, t2, t3⟩, ⟨hw1, hw2⟩, h1, g0, g1, g2, fun g' hg => ?_⟩
  have := Option.some.inj hg
  subst this
  rw [z_sN_s, eo 3 (by decide), eo 4 (by decide)]
  exact ⟨rfl, h4, (g3 g rfl).2.2⟩
end LMV
section LG
variable {G : z_G} {F : Nat → Prop} {a0 ap aw ag : Nat} {ws w : z_W} {I : z_TI} {N : z_TN} {B : z_TB} {g : Nat}
theorem iL_actM (hF : F ap ∧ F aw ∧ F ag) (hne : ap ≠ aw ∧ ap ≠ ag ∧ aw ≠ ag) {fp fw fg : Nat → Int32} (hV : z_V G F a0 ws I N (some g) B w) (hwp : ws ap = some (.inl (G.2.1 0, 16, .inl fp))) (hww : ws aw = some (.inl (G.2.1 0, 8, .inl fw))) (hwg : ws ag = some (.inl (G.2.1 0, 7, .inl fg))) (hLI : z_LI I N (some g) fp fw fg) {here its : Nat} (hh : I 6 g 0 = nI here) (hhe : here < 1000) (hits : its < 4) {x1 x2 x4 x5 x6 x8 x9 x10 x11 x12 x13 x14 x15 : Option Value} : z_E G zL_acts 10 (z_aq G F a0 ap aw ag) 139 [some (.ref a0), x1, x2, some (.ref ag), x4, x5, x6, some (.int (nI here)), x8, x9, x10, x11, x12, x13, x14, x15] [.int (nI its)] w 70 460 := by
  have hn := hV.n
  have hLI2 := hLI
  obtain ⟨-, -, h1, -, -, -, g3⟩ := hLI2
  obtain ⟨g3, g4, -, -⟩ := g3 g rfl
  obtain ⟨hg1, hg12, hp3, hp4, hp34, -, -⟩ := hV.g rfl
  have hFg := hF.2.2
  have hg := (hV.at hFg).trans hwg
  have hhr : z_rg (nI here) 1000 := ⟨here, hhe, rfl⟩
  have hir : z_rg (nI its) 4 := ⟨its, hits, rfl⟩
  have hb := z_bstg (nI here)
  have hx1 : z_rg (nI here) 1000 ∧ z_rg (bst (nI here)) 4 := ⟨hhr, hb⟩
  have hx2 : z_rg (nI here) 1000 ∧ z_rg (nI its) 4 := ⟨hhr, hir⟩
  have n4 : ¬ z_rg 4 4 := z_rg_ge (by decide) (by decide)
  have hbe : ∀ {I' : z_TI} {N' : z_TN} {ws' w' : z_W} (hV' : z_V G F a0 ws' I' N' (some g) B w') (hN0 : N' 0 0 = N 0 0) {v : Option Value} {wN : z_W}, (((∃ p1 p2, p1 < N' 0 0 ∧ p2 < N' 0 0 ∧ (0 : Int32) = nI p1 ∧ (1 : Int32) = nI p2 ∧ (0 : Int32) ≠ 1 ∧ some g = none ∧ N' 1 0 < 60 ∧ v = some (.int (nI (N' 1 0))) ∧ z_V G F a0 ws' (z_IG I' (N' 1 0)) (z_NB N' p1 p2) (some (N' 1 0)) B wN) ∨ (wN = w' ∧ ((¬ (z_rg 0 (N' 0 0) ∧ z_rg 1 (N' 0 0)) ∧ v = some (.int (-1000001))) ∨ ((z_rg 0 (N' 0 0) ∧ z_rg 1 (N' 0 0)) ∧ (0 : Int32) = 1 ∧ v = some (.int (-1000002))) ∨ ((z_rg 0 (N' 0 0) ∧ z_rg 1 (N' 0 0)) ∧ (0 : Int32) ≠ 1 ∧ ¬ (some g = none ∧ N' 1 0 < 60) ∧ v = some (.int (-1000003)))))) → wN = w' ∧ v = some (.int (-1000003))) := by
    intro I' N' ws' w' hV' hN0 v wN h
    rcases h with ⟨p1, p2, -, -, -, -, -, ho, -⟩ | ⟨e, ⟨hr, -⟩ | ⟨-, he, -⟩ | ⟨-, -, -, hv⟩⟩
    · cases ho
    · exact absurd ⟨⟨0, by omega, rfl⟩, ⟨1, by omega, rfl⟩⟩ hr
    · exact absurd he (by decide)
    · exact ⟨e, hv⟩
  refine z_istore8 (pc := 139) dL_acts_139 ?_
  refine z_aload_n (pc := 141) dL_acts_141 rfl (by first | rfl | exact z_isr_rf _) ?_
  refine z_iconst_3 (pc := 142) dL_acts_142 ?_
  refine z_iald (pc := 143) dL_acts_143 (hg) (z_v3) ?_
  refine z_bipush_12 (pc := 144) dL_acts_144 ?_
  rw [z_c3, g3]
  by_cases hc : N 5 g < 12
  · refine z_icmp_ge (pc := 146) (tgt := 153) dL_acts_146 (by decide) (fun hn => absurd hn (fun z => absurd ((nI_leI (a := 12) (by omega) (by omega)).1 z) (by omega))) (fun _ => ?_)
    have go241 : ∀ (v4 : Int32) (ck sk : Nat), v4 = nI (z_px (z_mvs (z_sI (z_sI I 8 g (N 5 g) (nI its)) 6 g 0 (nx (I 6 g 0) (nI its))) g) (z_kn (z_sN N 5 g (N 5 g + 1)) g)) → 60 ≤ ck → 400 ≤ sk → z_E G zL_acts 10 (z_aq G F a0 ap aw ag) 241 [some (.ref a0), x1, x2, some (.ref ag), x4, x5, x6, some (.int (nI here)), some (.int (nI its)), some (.int 1), some (.int (wo (nx (nI here) (bst (nI here))))), some (.int (blC (nI here) (nI its))), x12, x13, x14, x15] [.int v4, .int 4, .ref ag] w ck sk := by
      intro v4 ck sk hv4 h60 h400
      refine z_iast (pc := 241) dL_acts_241 (hg) (z_v4) ?_
      rw [z_c4]
      refine z_genU hV hFg (fun ws2 w2 hV2 e2 eo2 => ?_)
      refine z_aload_n (pc := 242) dL_acts_242 rfl (by first | rfl | exact z_isr_rf _) ?_
      refine z_iconst_3 (pc := 243) dL_acts_243 ?_
      refine z_dup2 (pc := 244) dL_acts_244 (by first | rfl | exact z_isr_cat (z_isr_rf _)) (by first | rfl | exact z_isr_cat (z_isr_rf _)) ?_
      refine z_iald (pc := 245) dL_acts_245 ((hV2.at hFg).trans e2) (z_v3) ?_
      refine z_iload (pc := 246) dL_acts_246 rfl ?_
      rw [z_c3, z_upd_n _ _ (show (3 : Nat) ≠ 4 by decide), g3]
      refine z_if_eq (pc := 248) (tgt := 255) dL_acts_248 (by decide) (fun hn => absurd hn (by decide)) (fun _ => ?_)
      refine z_iconst_1 (pc := 251) dL_acts_251 ?_
      refine z_goto (pc := 252) (tgt := 256) dL_acts_252 (by decide) ?_
      refine z_iadd (pc := 256) dL_acts_256 ?_
      rw [nI_1]
      refine z_iast (pc := 257) dL_acts_257 ((hV2.at hFg).trans e2) (z_v3) ?_
      rw [z_c3]
      refine z_genU hV2 hFg (fun ws3 w3 hV3 e3 eo3 => ?_)
      refine z_aload_n (pc := 258) dL_acts_258 rfl (by first | rfl | exact z_isr_rf _) ?_
      refine z_iload (pc := 259) dL_acts_259 rfl ?_
      refine z_callSq (pc := 261) (mL_position hV3 (j := here) hhe) dL_acts_261 cwL_136 okL_position rfl (by omega) rfl (Nat.le_of_ble_eq_true rfl) (by omega) (by omega) ?_
      refine z_if_eq (pc := 264) (tgt := 328) dL_acts_264 (by decide) (fun hn => absurd hn (by decide)) (fun _ => ?_)
      refine z_aload_n (pc := 267) dL_acts_267 rfl (by first | rfl | exact z_isr_rf _) ?_
      refine z_iload (pc := 268) dL_acts_268 rfl ?_
      refine z_callSX (pc := 270) (wL_move hV3 (nI its)) dL_acts_270 cwL_139 okL_move rfl (by omega) rfl (Nat.le_of_ble_eq_true rfl) (by omega) (by omega) (fun v wN hN => ?_)
      rcases hN with ⟨g', eg, h12, hr4, rfl, hV4⟩ | ⟨rfl, ⟨hr, -⟩ | ⟨-, hr, -⟩⟩
      · have eg := Option.some.inj eg
        subst eg
        rw [hh]
        refine z_iload (pc := 273) dL_acts_273 rfl ?_
        refine z_icmp_ne (pc := 275) (tgt := 328) dL_acts_275 (by decide) (fun hn => absurd (rfl) hn) (fun _ => ?_)
        obtain ⟨fs4, hk4⟩ := hV4.k0
        refine z_aload_n (pc := 278) dL_acts_278 rfl (by first | rfl | exact z_isr_rf _) ?_
        refine z_callVp (pc := 279) (vX_position hV4) dL_acts_279 cwL_133 okX5_position rfl (hk4) rfl rfl (by omega) rfl (Nat.le_of_ble_eq_true rfl) ?_
        rw [show z_po (z_sI (z_sI I 8 g (N 5 g) (nI its)) 6 g 0 (nx (I 6 g 0) (nI its))) (some g) = nx (nI here) (nI its) from by show z_sI _ 6 g 0 _ 6 g 0 = _; rw [z_sI_s, hh]]
        refine z_iload (pc := 282) dL_acts_282 rfl ?_
        refine z_if_eq (pc := 284) (tgt := 298) dL_acts_284 (by decide) (fun hn => absurd hn (by decide)) (fun _ => ?_)
        refine z_aload_n (pc := 287) dL_acts_287 rfl (by first | rfl | exact z_isr_rf _) ?_
        refine z_iload (pc := 288) dL_acts_288 rfl ?_
        refine z_iload (pc := 290) dL_acts_290 rfl ?_
        refine z_callSXp (pc := 292) (wL_after hV4 (nI here) (nI its)) dL_acts_292 cwL_96 okL_after rfl (by omega) rfl (Nat.le_of_ble_eq_true rfl) (by omega) (by omega) ?_
        rw [z_if_t hx2]
        refine z_goto (pc := 295) (tgt := 300) dL_acts_295 (by decide) ?_
        refine z_icmp_ne (pc := 300) (tgt := 328) dL_acts_300 (by decide) (fun hn => absurd (rfl) hn) (fun _ => ?_)
        refine z_aload_n (pc := 303) dL_acts_303 rfl (by first | rfl | exact z_isr_rf _) ?_
        refine z_iconst_4 (pc := 304) dL_acts_304 ?_
        refine z_callSX (pc := 305) (wL_move hV4 4) dL_acts_305 cwL_139 okL_move rfl (by omega) rfl (Nat.le_of_ble_eq_true rfl) (by omega) (by omega) (fun v wN hN => ?_)
        rcases hN with ⟨-, -, -, hr4', -⟩ | ⟨rfl, ⟨-, rfl⟩ | ⟨hr4', -⟩⟩
        · exact absurd hr4' n4
        · refine z_ldc (pc := 308) dL_acts_308 cc18 ?_
          refine z_icmp_ne (pc := 310) (tgt := 328) dL_acts_310 (by decide) (fun hn => absurd (rfl) hn) (fun _ => ?_)
          refine z_aload_n (pc := 313) dL_acts_313 rfl (by first | rfl | exact z_isr_rf _) ?_
          refine z_iconst_0 (pc := 314) dL_acts_314 ?_
          refine z_iconst_1 (pc := 315) dL_acts_315 ?_
          refine z_callSX (pc := 316) (wL_begin hV4 0 1) dL_acts_316 cwL_141 okL_begin rfl (by omega) rfl (Nat.le_of_ble_eq_true rfl) (by omega) (by omega) (fun v wN hN => ?_)
          obtain ⟨rfl, rfl⟩ := hbe hV4 (by rw [z_sN_f _ _ _ (by decide)]) hN
          refine z_ldc (pc := 319) dL_acts_319 cc32 ?_
          refine z_icmp_ne (pc := 321) (tgt := 328) dL_acts_321 (by decide) (fun hn => absurd (rfl) hn) (fun _ => ?_)
          refine z_iconst_1 (pc := 324) dL_acts_324 ?_
          refine z_goto (pc := 325) (tgt := 329) dL_acts_325 (by decide) ?_
          refine z_zret (pc := 329) dL_acts_329 rfl (Or.inr rfl ) ( ⟨rfl, _, _, _, _, ws3, fp, fw, _, hV4, ((eo3 ap hne.2.1).trans (eo2 ap hne.2.1)).trans hwp, ((eo3 aw hne.2.2).trans (eo2 aw hne.2.2)).trans hww, e3, hLI.move hv4⟩)
        · exact absurd hr4' n4
      · exact absurd hir hr
      · exact absurd ⟨g, rfl, hc⟩ hr
    have go209 : ∀ ck sk, 60 ≤ ck → 400 ≤ sk → z_E G zL_acts 10 (z_aq G F a0 ap aw ag) 209 [some (.ref a0), x1, x2, some (.ref ag), x4, x5, x6, some (.int (nI here)), some (.int (nI its)), some (.int 1), some (.int (wo (nx (nI here) (bst (nI here))))), x11, x12, x13, x14, x15] [.int (blC (nI here) (nI its))] w ck sk := by
      intro ck sk h60 h400
      refine z_istore11 (pc := 209) dL_acts_209 ?_
      refine z_aload_n (pc := 211) dL_acts_211 rfl (by first | rfl | exact z_isr_rf _) ?_
      refine z_iconst_4 (pc := 212) dL_acts_212 ?_
      refine z_dup2 (pc := 213) dL_acts_213 (by first | rfl | exact z_isr_cat (z_isr_rf _)) (by first | rfl | exact z_isr_cat (z_isr_rf _)) ?_
      refine z_iald (pc := 214) dL_acts_214 (hg) (z_v4) ?_
      refine z_iload (pc := 215) dL_acts_215 rfl ?_
      rw [z_c4, g4]
      refine z_if_eq (pc := 217) (tgt := 239) dL_acts_217 (by decide) (fun hn => absurd hn (by decide)) (fun _ => ?_)
      refine z_aload_n (pc := 220) dL_acts_220 rfl (by first | rfl | exact z_isr_rf _) ?_
      refine z_iconst_3 (pc := 221) dL_acts_221 ?_
      refine z_iald (pc := 222) dL_acts_222 (hg) (z_v3) ?_
      refine z_bipush_6 (pc := 223) dL_acts_223 ?_
      rw [z_c3, g3]
      by_cases h6 : N 5 g < 6
      · refine z_icmp_ge (pc := 225) (tgt := 239) dL_acts_225 (by decide) (fun hn => absurd hn (fun z => absurd ((nI_leI (a := 6) (by omega) (by omega)).1 z) (by omega))) (fun _ => ?_)
        refine z_iload (pc := 228) dL_acts_228 rfl ?_
        refine z_iconst_2 (pc := 230) dL_acts_230 ?_
        refine z_aload_n (pc := 231) dL_acts_231 rfl (by first | rfl | exact z_isr_rf _) ?_
        refine z_iconst_3 (pc := 232) dL_acts_232 ?_
        refine z_iald (pc := 233) dL_acts_233 (hg) (z_v3) ?_
        rw [z_c3, g3]
        refine z_imul (pc := 234) dL_acts_234 ?_
        refine z_ishl (pc := 235) dL_acts_235 ?_
        rw [z_shlm _ h6 its hits]
        refine z_goto (pc := 236) (tgt := 240) dL_acts_236 (by decide) ?_
        refine z_iadd (pc := 240) dL_acts_240 ?_
        rw [nI_add]
        exact go241 _ _ _ (by rw [z_mv_px hits, if_pos h6]) h60 h400
      · refine z_icmp_ge (pc := 225) (tgt := 239) dL_acts_225 (by decide) (fun _ => ?_) (fun hn => absurd ((nI_leI (a := 6) (by omega) (by omega)).2 (by omega)) hn)
        refine z_iconst_0 (pc := 239) dL_acts_239 ?_
        refine z_iadd (pc := 240) dL_acts_240 ?_
        rw [Int32.add_zero]
        exact go241 _ _ _ (by rw [z_mv_px hits, if_neg h6]) h60 h400
    refine z_iconst_1 (pc := 149) dL_acts_149 ?_
    refine z_goto (pc := 150) (tgt := 154) dL_acts_150 (by decide) ?_
    refine z_istore9 (pc := 154) dL_acts_154 ?_
    refine z_aload_n (pc := 156) dL_acts_156 rfl (by first | rfl | exact z_isr_rf _) ?_
    refine z_aload_n (pc := 157) dL_acts_157 rfl (by first | rfl | exact z_isr_rf _) ?_
    refine z_iload (pc := 158) dL_acts_158 rfl ?_
    refine z_aload_n (pc := 160) dL_acts_160 rfl (by first | rfl | exact z_isr_rf _) ?_
    refine z_iload (pc := 161) dL_acts_161 rfl ?_
    refine z_callSXp (pc := 163) (wL_best hV (nI here)) dL_acts_163 cwL_89 okL_best rfl (by omega) rfl (Nat.le_of_ble_eq_true rfl) (by omega) (by omega) ?_
    rw [z_if_t hhr]
    refine z_callSXp (pc := 166) (wL_after hV (nI here) (bst (nI here))) dL_acts_166 cwL_96 okL_after rfl (by omega) rfl (Nat.le_of_ble_eq_true rfl) (by omega) (by omega) ?_
    rw [z_if_t hx1]
    refine z_callSXp (pc := 169) (wL_worth hV (nx (nI here) (bst (nI here)))) dL_acts_169 cwL_94 okL_worth rfl (by omega) rfl (Nat.le_of_ble_eq_true rfl) (by omega) (by omega) ?_
    rw [z_if_t (z_nxg hhr hb)]
    refine z_istore10 (pc := 172) dL_acts_172 ?_
    refine z_iload (pc := 174) dL_acts_174 rfl ?_
    refine z_if_ne (pc := 176) (tgt := 184) dL_acts_176 (by decide) (fun _ => ?_) (fun hn => absurd hn (by decide))
    refine z_aload_n (pc := 184) dL_acts_184 rfl (by first | rfl | exact z_isr_rf _) ?_
    refine z_aload_n (pc := 185) dL_acts_185 rfl (by first | rfl | exact z_isr_rf _) ?_
    refine z_iload (pc := 186) dL_acts_186 rfl ?_
    refine z_iload (pc := 188) dL_acts_188 rfl ?_
    refine z_callSXp (pc := 190) (wL_after hV (nI here) (nI its)) dL_acts_190 cwL_96 okL_after rfl (by omega) rfl (Nat.le_of_ble_eq_true rfl) (by omega) (by omega) ?_
    rw [z_if_t hx2]
    refine z_callSXp (pc := 193) (wL_worth hV (nx (nI here) (nI its))) dL_acts_193 cwL_94 okL_worth rfl (by omega) rfl (Nat.le_of_ble_eq_true rfl) (by omega) (by omega) ?_
    rw [z_if_t (z_nxg hhr hir)]
    refine z_bipush_40 (pc := 196) dL_acts_196 ?_
    refine z_iadd (pc := 198) dL_acts_198 ?_
    refine z_iload (pc := 199) dL_acts_199 rfl ?_
    by_cases hbb : wo (nx (nI here) (bst (nI here))) < wo (nx (nI here) (nI its)) + 40
    · refine z_icmp_gt (pc := 201) (tgt := 208) dL_acts_201 (by decide) (fun _ => ?_) (fun hn => absurd (hbb) hn)
      rw [z_bl2 hhr hir, if_pos hbb] at go209
      refine z_iconst_0 (pc := 208) dL_acts_208 ?_
      exact go209 _ _ (by omega) (by omega)
    · refine z_icmp_gt (pc := 201) (tgt := 208) dL_acts_201 (by decide) (fun hn => absurd hn (hbb)) (fun _ => ?_)
      rw [z_bl2 hhr hir, if_neg hbb] at go209
      refine z_iconst_1 (pc := 204) dL_acts_204 ?_
      refine z_goto (pc := 205) (tgt := 209) dL_acts_205 (by decide) ?_
      exact go209 _ _ (by omega) (by omega)
  · refine z_icmp_ge (pc := 146) (tgt := 153) dL_acts_146 (by decide) (fun _ => ?_) (fun hn => absurd ((nI_leI (a := 12) (by omega) (by omega)).2 (by omega)) hn)
    refine z_iconst_0 (pc := 153) dL_acts_153 ?_
    refine z_istore9 (pc := 154) dL_acts_154 ?_
    refine z_aload_n (pc := 156) dL_acts_156 rfl (by first | rfl | exact z_isr_rf _) ?_
    refine z_aload_n (pc := 157) dL_acts_157 rfl (by first | rfl | exact z_isr_rf _) ?_
    refine z_iload (pc := 158) dL_acts_158 rfl ?_
    refine z_aload_n (pc := 160) dL_acts_160 rfl (by first | rfl | exact z_isr_rf _) ?_
    refine z_iload (pc := 161) dL_acts_161 rfl ?_
    refine z_callSXp (pc := 163) (wL_best hV (nI here)) dL_acts_163 cwL_89 okL_best rfl (by omega) rfl (Nat.le_of_ble_eq_true rfl) (by omega) (by omega) ?_
    rw [z_if_t hhr]
    refine z_callSXp (pc := 166) (wL_after hV (nI here) (bst (nI here))) dL_acts_166 cwL_96 okL_after rfl (by omega) rfl (Nat.le_of_ble_eq_true rfl) (by omega) (by omega) ?_
    rw [z_if_t hx1]
    refine z_callSXp (pc := 169) (wL_worth hV (nx (nI here) (bst (nI here)))) dL_acts_169 cwL_94 okL_worth rfl (by omega) rfl (Nat.le_of_ble_eq_true rfl) (by omega) (by omega) ?_
    rw [z_if_t (z_nxg hhr hb)]
    refine z_istore10 (pc := 172) dL_acts_172 ?_
    refine z_iload (pc := 174) dL_acts_174 rfl ?_
    refine z_if_ne (pc := 176) (tgt := 184) dL_acts_176 (by decide) (fun hn => absurd (rfl) hn) (fun _ => ?_)
    refine z_ldc (pc := 179) dL_acts_179 cc32 ?_
    refine z_goto (pc := 181) (tgt := 209) dL_acts_181 (by decide) ?_
    refine z_istore11 (pc := 209) dL_acts_209 ?_
    refine z_aload_n (pc := 211) dL_acts_211 rfl (by first | rfl | exact z_isr_rf _) ?_
    refine z_iconst_4 (pc := 212) dL_acts_212 ?_
    refine z_dup2 (pc := 213) dL_acts_213 (by first | rfl | exact z_isr_cat (z_isr_rf _)) (by first | rfl | exact z_isr_cat (z_isr_rf _)) ?_
    refine z_iald (pc := 214) dL_acts_214 (hg) (z_v4) ?_
    refine z_iload (pc := 215) dL_acts_215 rfl ?_
    rw [z_c4, g4]
    refine z_if_eq (pc := 217) (tgt := 239) dL_acts_217 (by decide) (fun _ => ?_) (fun hn => absurd (rfl) hn)
    refine z_iconst_0 (pc := 239) dL_acts_239 ?_
    refine z_iadd (pc := 240) dL_acts_240 ?_
    rw [Int32.add_zero]
    refine z_iast (pc := 241) dL_acts_241 (hg) (z_v4) ?_
    rw [z_c4]
    refine z_genU hV hFg (fun ws2 w2 hV2 e2 eo2 => ?_)
    refine z_aload_n (pc := 242) dL_acts_242 rfl (by first | rfl | exact z_isr_rf _) ?_
    refine z_iconst_3 (pc := 243) dL_acts_243 ?_
    refine z_dup2 (pc := 244) dL_acts_244 (by first | rfl | exact z_isr_cat (z_isr_rf _)) (by first | rfl | exact z_isr_cat (z_isr_rf _)) ?_
    refine z_iald (pc := 245) dL_acts_245 ((hV2.at hFg).trans e2) (z_v3) ?_
    refine z_iload (pc := 246) dL_acts_246 rfl ?_
    rw [z_c3, z_upd_n _ _ (show (3 : Nat) ≠ 4 by decide), g3]
    refine z_if_eq (pc := 248) (tgt := 255) dL_acts_248 (by decide) (fun _ => ?_) (fun hn => absurd (rfl) hn)
    refine z_iconst_0 (pc := 255) dL_acts_255 ?_
    refine z_iadd (pc := 256) dL_acts_256 ?_
    rw [Int32.add_zero]
    refine z_iast (pc := 257) dL_acts_257 ((hV2.at hFg).trans e2) (z_v3) ?_
    rw [z_c3]
    refine z_genU hV2 hFg (fun ws3 w3 hV3 e3 eo3 => ?_)
    refine z_aload_n (pc := 258) dL_acts_258 rfl (by first | rfl | exact z_isr_rf _) ?_
    refine z_iload (pc := 259) dL_acts_259 rfl ?_
    refine z_callSq (pc := 261) (mL_position hV3 (j := here) hhe) dL_acts_261 cwL_136 okL_position rfl (by omega) rfl (Nat.le_of_ble_eq_true rfl) (by omega) (by omega) ?_
    refine z_if_eq (pc := 264) (tgt := 328) dL_acts_264 (by decide) (fun hn => absurd hn (by decide)) (fun _ => ?_)
    refine z_aload_n (pc := 267) dL_acts_267 rfl (by first | rfl | exact z_isr_rf _) ?_
    refine z_iload (pc := 268) dL_acts_268 rfl ?_
    refine z_callSX (pc := 270) (wL_move hV3 (nI its)) dL_acts_270 cwL_139 okL_move rfl (by omega) rfl (Nat.le_of_ble_eq_true rfl) (by omega) (by omega) (fun v wN hN => ?_)
    rcases hN with ⟨g', eg, h12, -⟩ | ⟨rfl, ⟨hr, -⟩ | ⟨-, hr, rfl⟩⟩
    · have eg := Option.some.inj eg
      subst eg
      exact absurd h12 hc
    · exact absurd hir hr
    · refine z_iload (pc := 273) dL_acts_273 rfl ?_
      refine z_icmp_ne (pc := 275) (tgt := 328) dL_acts_275 (by decide) (fun hn => absurd (rfl) hn) (fun _ => ?_)
      obtain ⟨fs4, hk4⟩ := hV3.k0
      refine z_aload_n (pc := 278) dL_acts_278 rfl (by first | rfl | exact z_isr_rf _) ?_
      refine z_callVp (pc := 279) (vX_position hV3) dL_acts_279 cwL_133 okX5_position rfl (hk4) rfl rfl (by omega) rfl (Nat.le_of_ble_eq_true rfl) ?_
      rw [show z_po I (some g) = nI here from hh]
      refine z_iload (pc := 282) dL_acts_282 rfl ?_
      refine z_if_eq (pc := 284) (tgt := 298) dL_acts_284 (by decide) (fun _ => ?_) (fun hn => absurd (rfl) hn)
      refine z_iload (pc := 298) dL_acts_298 rfl ?_
      refine z_icmp_ne (pc := 300) (tgt := 328) dL_acts_300 (by decide) (fun hn => absurd (rfl) hn) (fun _ => ?_)
      refine z_aload_n (pc := 303) dL_acts_303 rfl (by first | rfl | exact z_isr_rf _) ?_
      refine z_iconst_4 (pc := 304) dL_acts_304 ?_
      refine z_callSX (pc := 305) (wL_move hV3 4) dL_acts_305 cwL_139 okL_move rfl (by omega) rfl (Nat.le_of_ble_eq_true rfl) (by omega) (by omega) (fun v wN hN => ?_)
      rcases hN with ⟨-, -, -, hr4', -⟩ | ⟨rfl, ⟨-, rfl⟩ | ⟨hr4', -⟩⟩
      · exact absurd hr4' n4
      · refine z_ldc (pc := 308) dL_acts_308 cc18 ?_
        refine z_icmp_ne (pc := 310) (tgt := 328) dL_acts_310 (by decide) (fun hn => absurd (rfl) hn) (fun _ => ?_)
        refine z_aload_n (pc := 313) dL_acts_313 rfl (by first | rfl | exact z_isr_rf _) ?_
        refine z_iconst_0 (pc := 314) dL_acts_314 ?_
        refine z_iconst_1 (pc := 315) dL_acts_315 ?_
        refine z_callSX (pc := 316) (wL_begin hV3 0 1) dL_acts_316 cwL_141 okL_begin rfl (by omega) rfl (Nat.le_of_ble_eq_true rfl) (by omega) (by omega) (fun v wN hN => ?_)
        obtain ⟨rfl, rfl⟩ := hbe hV3 rfl hN
        refine z_ldc (pc := 319) dL_acts_319 cc32 ?_
        refine z_icmp_ne (pc := 321) (tgt := 328) dL_acts_321 (by decide) (fun hn => absurd (rfl) hn) (fun _ => ?_)
        refine z_iconst_1 (pc := 324) dL_acts_324 ?_
        refine z_goto (pc := 325) (tgt := 329) dL_acts_325 (by decide) ?_
        refine z_zret (pc := 329) dL_acts_329 rfl (Or.inr rfl ) ( ⟨rfl, _, _, _, _, ws3, fp, fw, _, hV3, ((eo3 ap hne.2.1).trans (eo2 ap hne.2.1)).trans hwp, ((eo3 aw hne.2.2).trans (eo2 aw hne.2.2)).trans hww, e3, hLI.cg (fun i hi => by by_cases q : i = 3; (rw [q, z_upd_s, g3]); by_cases q4 : i = 4; (rw [q4, z_upd_n _ _ (show (4 : Nat) ≠ 3 by decide), z_upd_s, g4]); (rw [z_upd_n _ _ q, z_upd_n _ _ q4]))⟩)
      · exact absurd hr4' n4
end LG

