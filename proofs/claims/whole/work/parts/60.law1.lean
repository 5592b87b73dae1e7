/-! the cases of the law's switch (laid by a program) -/
theorem z_E.le {G : z_G} {Y : z_Mi} {d : Nat} {Z : z_Gq} {pc : Nat} {L : List (Option Value)} {st : List Value} {w : z_W} {k k' n n' : Nat} (hk : k' ≤ k) (hn : n' ≤ n) (h : z_E G Y d Z pc L st w k' n') : z_E G Y d Z pc L st w k n :=
  fun p e R s m args below meth c H locs cells slots ls mc ms C hR hS hL hd hk2 => h p e R s m args below meth c H locs cells slots ls mc ms C hR hS hL hd ⟨by omega, by omega, hk2.2.2⟩
/-- from the end of a case on, whatever the state -/
def z_nxt (G : z_G) (A A6 : z_TA) (qo qd i : Nat) (Z : z_Gq) (k n : Nat) : Prop := ∀ (A' : z_TA) (I' : z_TI) (N' : z_TN) (O' : z_TO) (B' : z_TB) (M' : z_TM) (vo' : Nat → Int64) (vd' : Nat → UInt64) (w' : z_W) (x6 x7 : Option Value), A' 0 0 0 = A 0 0 0 → z_LW G A' I' N' O' B' A6 M' qo qd vo' vd' w' → z_J I' N' O' B' M' → z_E G zL_law 9 Z 1469 [some (.ref G.2.2.2.2.1), some (.ref (A 0 0 0)), some (.ref (A6 22 0 0)), some (.ref qo), some (.ref qd), some (.int (nI i)), x6, x7] [] w' k n
section LAW1
variable {G : z_G} {A : z_TA} {I : z_TI} {N : z_TN} {O : z_TO} {B : z_TB} {A6 : z_TA} {M : z_TM} {qo qd : Nat} {vo : Nat → Int64} {vd : Nat → UInt64} {w : z_W} {i k n : Nat} {Z : z_Gq}
theorem kL_after (h : z_LW G A I N O B A6 M qo qd vo vd w) (hJ : z_J I N O B M) (hL : G.2.2.2.2.2.1 ≤ 2048) (hi : i + 4 ≤ G.2.2.2.2.2.1) (hk : 24 ≤ k) (hn : 84 ≤ n) (nx : z_nxt G A A6 qo qd i Z (k - 24) (n - 84)) (x6 x7 : Option Value) : z_E G zL_law 9 Z 152 [some (.ref G.2.2.2.2.1), some (.ref (A 0 0 0)), some (.ref (A6 22 0 0)), some (.ref qo), some (.ref qd), some (.int (nI i)), x6, x7] [] w k n := by
  have v1 : vp_in (nI i + 1) G.2.2.2.2.2.1 := by rw [show (1 : Int32) = nI 1 from rfl, nI_add]; exact vp_in_nI (by omega) (by omega)
  have v2 : vp_in (nI i + 2) G.2.2.2.2.2.1 := by rw [show (2 : Int32) = nI 2 from rfl, nI_add]; exact vp_in_nI (by omega) (by omega)
  refine z_aload_n (pc := 152) dL_law_152 rfl (by first | rfl | exact z_isr_rf _) ?_
  refine z_aload_n (pc := 153) dL_law_153 rfl (by first | rfl | exact z_isr_rf _) ?_
  refine z_iload (pc := 154) dL_law_154 rfl ?_
  refine z_iconst_1 (pc := 156) dL_law_156 ?_
  refine z_iadd (pc := 157) dL_law_157 ?_
  refine z_sld (pc := 158) dL_law_158 (v1) ?_
  refine z_aload_n (pc := 159) dL_law_159 rfl (by first | rfl | exact z_isr_rf _) ?_
  refine z_iload (pc := 160) dL_law_160 rfl ?_
  refine z_iconst_2 (pc := 162) dL_law_162 ?_
  refine z_iadd (pc := 163) dL_law_163 ?_
  refine z_sld (pc := 164) dL_law_164 (v2) ?_
  refine z_aload_n (pc := 165) dL_law_165 rfl (by first | rfl | exact z_isr_rf _) ?_
  refine z_callSX (pc := 166) (wL_after h hJ (G.2.2.2.2.2.2 (nI i + 1).toNatClampNeg) (G.2.2.2.2.2.2 (nI i + 2).toNatClampNeg)) dL_law_166 cwL_86 okL_after rfl (by omega) rfl (Nat.le_of_ble_eq_true rfl) (by omega) (by omega) (fun v wN hN => ?_)
  obtain ⟨kk, r, A', I', N', O', B', vo', rfl, hq, hvo, hA, hW⟩ := hN
  refine z_istore6 (pc := 169) dL_law_169 ?_
  refine z_aload_n (pc := 171) dL_law_171 rfl (by first | rfl | exact z_isr_rf _) ?_
  refine z_aload_n (pc := 172) dL_law_172 rfl (by first | rfl | exact z_isr_rf _) ?_
  refine z_iload (pc := 173) dL_law_173 rfl ?_
  refine z_iconst_1 (pc := 175) dL_law_175 ?_
  refine z_iadd (pc := 176) dL_law_176 ?_
  refine z_sld (pc := 177) dL_law_177 (v1) ?_
  refine z_aload_n (pc := 178) dL_law_178 rfl (by first | rfl | exact z_isr_rf _) ?_
  refine z_iload (pc := 179) dL_law_179 rfl ?_
  refine z_iconst_2 (pc := 181) dL_law_181 ?_
  refine z_iadd (pc := 182) dL_law_182 ?_
  refine z_sld (pc := 183) dL_law_183 (v2) ?_
  refine z_callV (pc := 184) (rL_after hW.2.1 hJ (G.2.2.2.2.2.2 (nI i + 1).toNatClampNeg) (G.2.2.2.2.2.2 (nI i + 2).toNatClampNeg) hq) dL_law_184 cwL_91 okX6_after rfl (hW.2.1.k22) rfl rfl (by omega) rfl (Nat.le_of_ble_eq_true rfl) (by omega) (by omega) (fun _ _ h => h.elim) (fun v wN hN => ?_)
  obtain ⟨b, M', rfl, hJ', h21, hbr, hM', hf'⟩ := hN
  have hW' := hW.ref hM' hf'
  refine z_istore7 (pc := 187) dL_law_187 ?_
  refine z_aload_n (pc := 189) dL_law_189 rfl (by first | rfl | exact z_isr_rf _) ?_
  refine z_callVp (pc := 190) (mX6_thrown hM') dL_law_190 cwL_92 okX6_thrown rfl (hM'.k22) rfl rfl (by omega) rfl (Nat.le_of_ble_eq_true rfl) ?_
  rw [h21]
  refine z_iload (pc := 193) dL_law_193 rfl ?_
  refine z_icmp_eq (pc := 195) (tgt := 200) dL_law_195 (by decide) (fun _ => ?_) (fun hn => absurd (rfl) hn)
  refine z_iload (pc := 200) dL_law_200 rfl ?_
  refine z_if_ne (pc := 202) (tgt := 217) dL_law_202 (by decide) (fun hz => ?_) (fun hz => ?_)
  · refine z_goto (pc := 217) (tgt := 1469) dL_law_217 (by decide) ?_
    exact z_E.le (by omega) (by omega) (nx A' I' N' O' B' M' vo' vd _ _ _ hA hW' hJ')
  · refine z_aload_n (pc := 205) dL_law_205 rfl (by first | rfl | exact z_isr_rf _) ?_
    refine z_iconst_0 (pc := 206) dL_law_206 ?_
    refine z_lald (pc := 207) dL_law_207 (hW'.2.2.1) (z_v01) ?_
    refine z_iload (pc := 208) dL_law_208 rfl ?_
    refine z_i2l (pc := 210) dL_law_210 ?_
    refine z_lcmp (pc := 211) dL_law_211 ?_
    refine z_if_eq (pc := 212) (tgt := 217) dL_law_212 (by decide) (fun _ => ?_) (fun hn => absurd ((lg_cmp_eq _ _).2 ((hvo hz).trans (by rw [hbr hz]))) hn)
    refine z_goto (pc := 217) (tgt := 1469) dL_law_217 (by decide) ?_
    exact z_E.le (by omega) (by omega) (nx A' I' N' O' B' M' vo' vd _ _ _ hA hW' hJ')
theorem kL_worth (h : z_LW G A I N O B A6 M qo qd vo vd w) (hJ : z_J I N O B M) (hL : G.2.2.2.2.2.1 ≤ 2048) (hi : i + 4 ≤ G.2.2.2.2.2.1) (hk : 24 ≤ k) (hn : 84 ≤ n) (nx : z_nxt G A A6 qo qd i Z (k - 24) (n - 84)) (x6 x7 : Option Value) : z_E G zL_law 9 Z 220 [some (.ref G.2.2.2.2.1), some (.ref (A 0 0 0)), some (.ref (A6 22 0 0)), some (.ref qo), some (.ref qd), some (.int (nI i)), x6, x7] [] w k n := by
  have v1 : vp_in (nI i + 1) G.2.2.2.2.2.1 := by rw [show (1 : Int32) = nI 1 from rfl, nI_add]; exact vp_in_nI (by omega) (by omega)
  refine z_aload_n (pc := 220) dL_law_220 rfl (by first | rfl | exact z_isr_rf _) ?_
  refine z_aload_n (pc := 221) dL_law_221 rfl (by first | rfl | exact z_isr_rf _) ?_
  refine z_iload (pc := 222) dL_law_222 rfl ?_
  refine z_iconst_1 (pc := 224) dL_law_224 ?_
  refine z_iadd (pc := 225) dL_law_225 ?_
  refine z_sld (pc := 226) dL_law_226 (v1) ?_
  refine z_aload_n (pc := 227) dL_law_227 rfl (by first | rfl | exact z_isr_rf _) ?_
  refine z_callSX (pc := 228) (wL_worth h hJ (G.2.2.2.2.2.2 (nI i + 1).toNatClampNeg)) dL_law_228 cwL_95 okL_worth rfl (by omega) rfl (Nat.le_of_ble_eq_true rfl) (by omega) (by omega) (fun v wN hN => ?_)
  obtain ⟨kk, r, A', I', N', O', B', vo', rfl, hq, hvo, hA, hW⟩ := hN
  refine z_istore6 (pc := 231) dL_law_231 ?_
  refine z_aload_n (pc := 233) dL_law_233 rfl (by first | rfl | exact z_isr_rf _) ?_
  refine z_aload_n (pc := 234) dL_law_234 rfl (by first | rfl | exact z_isr_rf _) ?_
  refine z_iload (pc := 235) dL_law_235 rfl ?_
  refine z_iconst_1 (pc := 237) dL_law_237 ?_
  refine z_iadd (pc := 238) dL_law_238 ?_
  refine z_sld (pc := 239) dL_law_239 (v1) ?_
  refine z_callV (pc := 240) (rL_worth hW.2.1 hJ (G.2.2.2.2.2.2 (nI i + 1).toNatClampNeg) hq) dL_law_240 cwL_98 okX6_worth rfl (hW.2.1.k22) rfl rfl (by omega) rfl (Nat.le_of_ble_eq_true rfl) (by omega) (by omega) (fun _ _ h => h.elim) (fun v wN hN => ?_)
  obtain ⟨b, M', rfl, hJ', h21, hbr, hM', hf'⟩ := hN
  have hW' := hW.ref hM' hf'
  refine z_istore7 (pc := 243) dL_law_243 ?_
  refine z_aload_n (pc := 245) dL_law_245 rfl (by first | rfl | exact z_isr_rf _) ?_
  refine z_callVp (pc := 246) (mX6_thrown hM') dL_law_246 cwL_92 okX6_thrown rfl (hM'.k22) rfl rfl (by omega) rfl (Nat.le_of_ble_eq_true rfl) ?_
  rw [h21]
  refine z_iload (pc := 249) dL_law_249 rfl ?_
  refine z_icmp_eq (pc := 251) (tgt := 256) dL_law_251 (by decide) (fun _ => ?_) (fun hn => absurd (rfl) hn)
  refine z_iload (pc := 256) dL_law_256 rfl ?_
  refine z_if_ne (pc := 258) (tgt := 273) dL_law_258 (by decide) (fun hz => ?_) (fun hz => ?_)
  · refine z_goto (pc := 273) (tgt := 1469) dL_law_273 (by decide) ?_
    exact z_E.le (by omega) (by omega) (nx A' I' N' O' B' M' vo' vd _ _ _ hA hW' hJ')
  · refine z_aload_n (pc := 261) dL_law_261 rfl (by first | rfl | exact z_isr_rf _) ?_
    refine z_iconst_0 (pc := 262) dL_law_262 ?_
    refine z_lald (pc := 263) dL_law_263 (hW'.2.2.1) (z_v01) ?_
    refine z_iload (pc := 264) dL_law_264 rfl ?_
    refine z_i2l (pc := 266) dL_law_266 ?_
    refine z_lcmp (pc := 267) dL_law_267 ?_
    refine z_if_eq (pc := 268) (tgt := 273) dL_law_268 (by decide) (fun _ => ?_) (fun hn => absurd ((lg_cmp_eq _ _).2 ((hvo hz).trans (by rw [hbr hz]))) hn)
    refine z_goto (pc := 273) (tgt := 1469) dL_law_273 (by decide) ?_
    exact z_E.le (by omega) (by omega) (nx A' I' N' O' B' M' vo' vd _ _ _ hA hW' hJ')
theorem kL_best (h : z_LW G A I N O B A6 M qo qd vo vd w) (hJ : z_J I N O B M) (hL : G.2.2.2.2.2.1 ≤ 2048) (hi : i + 4 ≤ G.2.2.2.2.2.1) (hk : 24 ≤ k) (hn : 84 ≤ n) (nx : z_nxt G A A6 qo qd i Z (k - 24) (n - 84)) (x6 x7 : Option Value) : z_E G zL_law 9 Z 276 [some (.ref G.2.2.2.2.1), some (.ref (A 0 0 0)), some (.ref (A6 22 0 0)), some (.ref qo), some (.ref qd), some (.int (nI i)), x6, x7] [] w k n := by
  have v1 : vp_in (nI i + 1) G.2.2.2.2.2.1 := by rw [show (1 : Int32) = nI 1 from rfl, nI_add]; exact vp_in_nI (by omega) (by omega)
  refine z_aload_n (pc := 276) dL_law_276 rfl (by first | rfl | exact z_isr_rf _) ?_
  refine z_aload_n (pc := 277) dL_law_277 rfl (by first | rfl | exact z_isr_rf _) ?_
  refine z_iload (pc := 278) dL_law_278 rfl ?_
  refine z_iconst_1 (pc := 280) dL_law_280 ?_
  refine z_iadd (pc := 281) dL_law_281 ?_
  refine z_sld (pc := 282) dL_law_282 (v1) ?_
  refine z_aload_n (pc := 283) dL_law_283 rfl (by first | rfl | exact z_isr_rf _) ?_
  refine z_callSX (pc := 284) (wL_best h hJ (G.2.2.2.2.2.2 (nI i + 1).toNatClampNeg)) dL_law_284 cwL_99 okL_best rfl (by omega) rfl (Nat.le_of_ble_eq_true rfl) (by omega) (by omega) (fun v wN hN => ?_)
  obtain ⟨kk, r, A', I', N', O', B', vo', rfl, hq, hvo, hA, hW⟩ := hN
  refine z_istore6 (pc := 287) dL_law_287 ?_
  refine z_aload_n (pc := 289) dL_law_289 rfl (by first | rfl | exact z_isr_rf _) ?_
  refine z_aload_n (pc := 290) dL_law_290 rfl (by first | rfl | exact z_isr_rf _) ?_
  refine z_iload (pc := 291) dL_law_291 rfl ?_
  refine z_iconst_1 (pc := 293) dL_law_293 ?_
  refine z_iadd (pc := 294) dL_law_294 ?_
  refine z_sld (pc := 295) dL_law_295 (v1) ?_
  refine z_callV (pc := 296) (rL_best hW.2.1 hJ (G.2.2.2.2.2.2 (nI i + 1).toNatClampNeg) hq) dL_law_296 cwL_101 okX6_best rfl (hW.2.1.k22) rfl rfl (by omega) rfl (Nat.le_of_ble_eq_true rfl) (by omega) (by omega) (fun _ _ h => h.elim) (fun v wN hN => ?_)
  obtain ⟨b, M', rfl, hJ', h21, hbr, hM', hf'⟩ := hN
  have hW' := hW.ref hM' hf'
  refine z_istore7 (pc := 299) dL_law_299 ?_
  refine z_aload_n (pc := 301) dL_law_301 rfl (by first | rfl | exact z_isr_rf _) ?_
  refine z_callVp (pc := 302) (mX6_thrown hM') dL_law_302 cwL_92 okX6_thrown rfl (hM'.k22) rfl rfl (by omega) rfl (Nat.le_of_ble_eq_true rfl) ?_
  rw [h21]
  refine z_iload (pc := 305) dL_law_305 rfl ?_
  refine z_icmp_eq (pc := 307) (tgt := 312) dL_law_307 (by decide) (fun _ => ?_) (fun hn => absurd (rfl) hn)
  refine z_iload (pc := 312) dL_law_312 rfl ?_
  refine z_if_ne (pc := 314) (tgt := 329) dL_law_314 (by decide) (fun hz => ?_) (fun hz => ?_)
  · refine z_goto (pc := 329) (tgt := 1469) dL_law_329 (by decide) ?_
    exact z_E.le (by omega) (by omega) (nx A' I' N' O' B' M' vo' vd _ _ _ hA hW' hJ')
  · refine z_aload_n (pc := 317) dL_law_317 rfl (by first | rfl | exact z_isr_rf _) ?_
    refine z_iconst_0 (pc := 318) dL_law_318 ?_
    refine z_lald (pc := 319) dL_law_319 (hW'.2.2.1) (z_v01) ?_
    refine z_iload (pc := 320) dL_law_320 rfl ?_
    refine z_i2l (pc := 322) dL_law_322 ?_
    refine z_lcmp (pc := 323) dL_law_323 ?_
    refine z_if_eq (pc := 324) (tgt := 329) dL_law_324 (by decide) (fun _ => ?_) (fun hn => absurd ((lg_cmp_eq _ _).2 ((hvo hz).trans (by rw [hbr hz]))) hn)
    refine z_goto (pc := 329) (tgt := 1469) dL_law_329 (by decide) ?_
    exact z_E.le (by omega) (by omega) (nx A' I' N' O' B' M' vo' vd _ _ _ hA hW' hJ')
theorem kL_enter (h : z_LW G A I N O B A6 M qo qd vo vd w) (hJ : z_J I N O B M) (hL : G.2.2.2.2.2.1 ≤ 2048) (hi : i + 4 ≤ G.2.2.2.2.2.1) (hk : 24 ≤ k) (hn : 84 ≤ n) (nx : z_nxt G A A6 qo qd i Z (k - 24) (n - 84)) (x6 x7 : Option Value) : z_E G zL_law 9 Z 332 [some (.ref G.2.2.2.2.1), some (.ref (A 0 0 0)), some (.ref (A6 22 0 0)), some (.ref qo), some (.ref qd), some (.int (nI i)), x6, x7] [] w k n := by
  refine z_aload_n (pc := 332) dL_law_332 rfl (by first | rfl | exact z_isr_rf _) ?_
  refine z_aload_n (pc := 333) dL_law_333 rfl (by first | rfl | exact z_isr_rf _) ?_
  refine z_callSX (pc := 334) (wL_enter h hJ) dL_law_334 cwL_102 okL_enter rfl (by omega) rfl (Nat.le_of_ble_eq_true rfl) (by omega) (by omega) (fun v wN hN => ?_)
  obtain ⟨kk, r, A', I', N', O', B', vo', rfl, hq, hvo, hA, hW⟩ := hN
  refine z_istore6 (pc := 337) dL_law_337 ?_
  refine z_aload_n (pc := 339) dL_law_339 rfl (by first | rfl | exact z_isr_rf _) ?_
  refine z_callV (pc := 340) (rL_enter hW.2.1 hJ  hq) dL_law_340 cwL_105 okX6_enter rfl (hW.2.1.k22) rfl rfl (by omega) rfl (Nat.le_of_ble_eq_true rfl) (by omega) (by omega) (fun _ _ h => h.elim) (fun v wN hN => ?_)
  obtain ⟨b, M', rfl, hJ', h21, hbr, hM', hf'⟩ := hN
  have hW' := hW.ref hM' hf'
  refine z_istore7 (pc := 343) dL_law_343 ?_
  refine z_aload_n (pc := 345) dL_law_345 rfl (by first | rfl | exact z_isr_rf _) ?_
  refine z_callVp (pc := 346) (mX6_thrown hM') dL_law_346 cwL_92 okX6_thrown rfl (hM'.k22) rfl rfl (by omega) rfl (Nat.le_of_ble_eq_true rfl) ?_
  rw [h21]
  refine z_iload (pc := 349) dL_law_349 rfl ?_
  refine z_icmp_eq (pc := 351) (tgt := 356) dL_law_351 (by decide) (fun _ => ?_) (fun hn => absurd (rfl) hn)
  refine z_iload (pc := 356) dL_law_356 rfl ?_
  refine z_if_ne (pc := 358) (tgt := 373) dL_law_358 (by decide) (fun hz => ?_) (fun hz => ?_)
  · refine z_goto (pc := 373) (tgt := 1469) dL_law_373 (by decide) ?_
    exact z_E.le (by omega) (by omega) (nx A' I' N' O' B' M' vo' vd _ _ _ hA hW' hJ')
  · refine z_aload_n (pc := 361) dL_law_361 rfl (by first | rfl | exact z_isr_rf _) ?_
    refine z_iconst_0 (pc := 362) dL_law_362 ?_
    refine z_lald (pc := 363) dL_law_363 (hW'.2.2.1) (z_v01) ?_
    refine z_iload (pc := 364) dL_law_364 rfl ?_
    refine z_i2l (pc := 366) dL_law_366 ?_
    refine z_lcmp (pc := 367) dL_law_367 ?_
    refine z_if_eq (pc := 368) (tgt := 373) dL_law_368 (by decide) (fun _ => ?_) (fun hn => absurd ((lg_cmp_eq _ _).2 ((hvo hz).trans (by rw [hbr hz]))) hn)
    refine z_goto (pc := 373) (tgt := 1469) dL_law_373 (by decide) ?_
    exact z_E.le (by omega) (by omega) (nx A' I' N' O' B' M' vo' vd _ _ _ hA hW' hJ')
end LAW1

