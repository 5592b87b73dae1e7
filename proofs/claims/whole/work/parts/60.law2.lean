/-! .. more of them -/
section LAW2
variable {G : z_G} {A : z_TA} {I : z_TI} {N : z_TN} {O : z_TO} {B : z_TB} {A6 : z_TA} {M : z_TM} {qo qd : Nat} {vo : Nat → Int64} {vd : Nat → UInt64} {w : z_W} {i k n : Nat} {Z : z_Gq}
theorem z_J.qposition (h : z_J I N O B M) : (match O 0 0 with | none => -1 | some g => I 6 g 0 : Int32) = z_if (M 6 0 = 0) (-1) (M 7 0) := by
  cases ho : O 0 0 with
  | none => rw [z_if_t (h.m6.2 ho)]
  | some g => rw [z_if_f (fun z => by rw [h.m6.1 z] at ho; cases ho)]; exact (h.2.2.2.1.2.2.1 g ho).1.symm
theorem z_J.qgames (h : z_J I N O B M) : (match O 0 0 with | none => nI (N 1 0) | some _ => nI (N 1 0) - 1 : Int32) = M 5 0 - M 6 0 := by
  rw [h.2.2.2.1.1, h.2.2.2.1.2.1]
  cases ho : O 0 0 with
  | none => exact (Int32.sub_zero _).symm
  | some g => rfl
theorem z_J.qpuzzles (h : z_J I N O B M) : nI (N 2 0) = M 13 0 := h.2.2.2.2.1.1.symm
theorem kL_begin (h : z_LW G A I N O B A6 M qo qd vo vd w) (hJ : z_J I N O B M) (hL : G.2.2.2.2.2.1 ≤ 2048) (hi : i + 4 ≤ G.2.2.2.2.2.1) (hk : 24 ≤ k) (hn : 84 ≤ n) (nx : z_nxt G A A6 qo qd i Z (k - 24) (n - 84)) (x6 x7 : Option Value) : z_E G zL_law 9 Z 376 [some (.ref G.2.2.2.2.1), some (.ref (A 0 0 0)), some (.ref (A6 22 0 0)), some (.ref qo), some (.ref qd), some (.int (nI i)), x6, x7] [] w k n := by
  have v1 : vp_in (nI i + 1) G.2.2.2.2.2.1 := by rw [show (1 : Int32) = nI 1 from rfl, nI_add]; exact vp_in_nI (by omega) (by omega)
  have v2 : vp_in (nI i + 2) G.2.2.2.2.2.1 := by rw [show (2 : Int32) = nI 2 from rfl, nI_add]; exact vp_in_nI (by omega) (by omega)
  refine z_aload_n (pc := 376) dL_law_376 rfl (by first | rfl | exact z_isr_rf _) ?_
  refine z_aload_n (pc := 377) dL_law_377 rfl (by first | rfl | exact z_isr_rf _) ?_
  refine z_iload (pc := 378) dL_law_378 rfl ?_
  refine z_iconst_1 (pc := 380) dL_law_380 ?_
  refine z_iadd (pc := 381) dL_law_381 ?_
  refine z_sld (pc := 382) dL_law_382 (v1) ?_
  refine z_aload_n (pc := 383) dL_law_383 rfl (by first | rfl | exact z_isr_rf _) ?_
  refine z_iload (pc := 384) dL_law_384 rfl ?_
  refine z_iconst_2 (pc := 386) dL_law_386 ?_
  refine z_iadd (pc := 387) dL_law_387 ?_
  refine z_sld (pc := 388) dL_law_388 (v2) ?_
  refine z_aload_n (pc := 389) dL_law_389 rfl (by first | rfl | exact z_isr_rf _) ?_
  refine z_callSX (pc := 390) (wL_begin h hJ (G.2.2.2.2.2.2 (nI i + 1).toNatClampNeg) (G.2.2.2.2.2.2 (nI i + 2).toNatClampNeg)) dL_law_390 cwL_106 okL_begin rfl (by omega) rfl (Nat.le_of_ble_eq_true rfl) (by omega) (by omega) (fun v wN hN => ?_)
  obtain ⟨kk, r, A', I', N', O', B', vo', rfl, hq, hvo, hA, hW⟩ := hN
  refine z_istore6 (pc := 393) dL_law_393 ?_
  refine z_aload_n (pc := 395) dL_law_395 rfl (by first | rfl | exact z_isr_rf _) ?_
  refine z_aload_n (pc := 396) dL_law_396 rfl (by first | rfl | exact z_isr_rf _) ?_
  refine z_iload (pc := 397) dL_law_397 rfl ?_
  refine z_iconst_1 (pc := 399) dL_law_399 ?_
  refine z_iadd (pc := 400) dL_law_400 ?_
  refine z_sld (pc := 401) dL_law_401 (v1) ?_
  refine z_aload_n (pc := 402) dL_law_402 rfl (by first | rfl | exact z_isr_rf _) ?_
  refine z_iload (pc := 403) dL_law_403 rfl ?_
  refine z_iconst_2 (pc := 405) dL_law_405 ?_
  refine z_iadd (pc := 406) dL_law_406 ?_
  refine z_sld (pc := 407) dL_law_407 (v2) ?_
  refine z_callV (pc := 408) (rL_begin hW.2.1 hJ (G.2.2.2.2.2.2 (nI i + 1).toNatClampNeg) (G.2.2.2.2.2.2 (nI i + 2).toNatClampNeg) hq) dL_law_408 cwL_108 okX6_begin rfl (hW.2.1.k22) rfl rfl (by omega) rfl (Nat.le_of_ble_eq_true rfl) (by omega) (by omega) (fun _ _ h => h.elim) (fun v wN hN => ?_)
  obtain ⟨b, M', rfl, hJ', h21, hbr, hM', hf'⟩ := hN
  have hW' := hW.ref hM' hf'
  refine z_istore7 (pc := 411) dL_law_411 ?_
  refine z_aload_n (pc := 413) dL_law_413 rfl (by first | rfl | exact z_isr_rf _) ?_
  refine z_callVp (pc := 414) (mX6_thrown hM') dL_law_414 cwL_92 okX6_thrown rfl (hM'.k22) rfl rfl (by omega) rfl (Nat.le_of_ble_eq_true rfl) ?_
  rw [h21]
  refine z_iload (pc := 417) dL_law_417 rfl ?_
  refine z_icmp_eq (pc := 419) (tgt := 424) dL_law_419 (by decide) (fun _ => ?_) (fun hn => absurd (rfl) hn)
  refine z_iload (pc := 424) dL_law_424 rfl ?_
  refine z_if_ne (pc := 426) (tgt := 441) dL_law_426 (by decide) (fun hz => ?_) (fun hz => ?_)
  · refine z_goto (pc := 441) (tgt := 1469) dL_law_441 (by decide) ?_
    exact z_E.le (by omega) (by omega) (nx A' I' N' O' B' M' vo' vd _ _ _ hA hW' hJ')
  · refine z_aload_n (pc := 429) dL_law_429 rfl (by first | rfl | exact z_isr_rf _) ?_
    refine z_iconst_0 (pc := 430) dL_law_430 ?_
    refine z_lald (pc := 431) dL_law_431 (hW'.2.2.1) (z_v01) ?_
    refine z_iload (pc := 432) dL_law_432 rfl ?_
    refine z_i2l (pc := 434) dL_law_434 ?_
    refine z_lcmp (pc := 435) dL_law_435 ?_
    refine z_if_eq (pc := 436) (tgt := 441) dL_law_436 (by decide) (fun _ => ?_) (fun hn => absurd ((lg_cmp_eq _ _).2 ((hvo hz).trans (by rw [hbr hz]))) hn)
    refine z_goto (pc := 441) (tgt := 1469) dL_law_441 (by decide) ?_
    exact z_E.le (by omega) (by omega) (nx A' I' N' O' B' M' vo' vd _ _ _ hA hW' hJ')
theorem kL_move (h : z_LW G A I N O B A6 M qo qd vo vd w) (hJ : z_J I N O B M) (hL : G.2.2.2.2.2.1 ≤ 2048) (hi : i + 4 ≤ G.2.2.2.2.2.1) (hk : 24 ≤ k) (hn : 84 ≤ n) (nx : z_nxt G A A6 qo qd i Z (k - 24) (n - 84)) (x6 x7 : Option Value) : z_E G zL_law 9 Z 444 [some (.ref G.2.2.2.2.1), some (.ref (A 0 0 0)), some (.ref (A6 22 0 0)), some (.ref qo), some (.ref qd), some (.int (nI i)), x6, x7] [] w k n := by
  have v1 : vp_in (nI i + 1) G.2.2.2.2.2.1 := by rw [show (1 : Int32) = nI 1 from rfl, nI_add]; exact vp_in_nI (by omega) (by omega)
  refine z_aload_n (pc := 444) dL_law_444 rfl (by first | rfl | exact z_isr_rf _) ?_
  refine z_aload_n (pc := 445) dL_law_445 rfl (by first | rfl | exact z_isr_rf _) ?_
  refine z_iload (pc := 446) dL_law_446 rfl ?_
  refine z_iconst_1 (pc := 448) dL_law_448 ?_
  refine z_iadd (pc := 449) dL_law_449 ?_
  refine z_sld (pc := 450) dL_law_450 (v1) ?_
  refine z_aload_n (pc := 451) dL_law_451 rfl (by first | rfl | exact z_isr_rf _) ?_
  refine z_callSX (pc := 452) (wL_move h hJ (G.2.2.2.2.2.2 (nI i + 1).toNatClampNeg)) dL_law_452 cwL_109 okL_move rfl (by omega) rfl (Nat.le_of_ble_eq_true rfl) (by omega) (by omega) (fun v wN hN => ?_)
  obtain ⟨kk, r, A', I', N', O', B', vo', rfl, hq, hvo, hA, hW⟩ := hN
  refine z_istore6 (pc := 455) dL_law_455 ?_
  refine z_aload_n (pc := 457) dL_law_457 rfl (by first | rfl | exact z_isr_rf _) ?_
  refine z_aload_n (pc := 458) dL_law_458 rfl (by first | rfl | exact z_isr_rf _) ?_
  refine z_iload (pc := 459) dL_law_459 rfl ?_
  refine z_iconst_1 (pc := 461) dL_law_461 ?_
  refine z_iadd (pc := 462) dL_law_462 ?_
  refine z_sld (pc := 463) dL_law_463 (v1) ?_
  refine z_callV (pc := 464) (rL_move hW.2.1 hJ (G.2.2.2.2.2.2 (nI i + 1).toNatClampNeg) hq) dL_law_464 cwL_111 okX6_move rfl (hW.2.1.k22) rfl rfl (by omega) rfl (Nat.le_of_ble_eq_true rfl) (by omega) (by omega) (fun _ _ h => h.elim) (fun v wN hN => ?_)
  obtain ⟨b, M', rfl, hJ', h21, hbr, hM', hf'⟩ := hN
  have hW' := hW.ref hM' hf'
  refine z_istore7 (pc := 467) dL_law_467 ?_
  refine z_aload_n (pc := 469) dL_law_469 rfl (by first | rfl | exact z_isr_rf _) ?_
  refine z_callVp (pc := 470) (mX6_thrown hM') dL_law_470 cwL_92 okX6_thrown rfl (hM'.k22) rfl rfl (by omega) rfl (Nat.le_of_ble_eq_true rfl) ?_
  rw [h21]
  refine z_iload (pc := 473) dL_law_473 rfl ?_
  refine z_icmp_eq (pc := 475) (tgt := 480) dL_law_475 (by decide) (fun _ => ?_) (fun hn => absurd (rfl) hn)
  refine z_iload (pc := 480) dL_law_480 rfl ?_
  refine z_if_ne (pc := 482) (tgt := 504) dL_law_482 (by decide) (fun hz => ?_) (fun hz => ?_)
  · refine z_goto (pc := 504) (tgt := 1469) dL_law_504 (by decide) ?_
    exact z_E.le (by omega) (by omega) (nx A' I' N' O' B' M' vo' vd _ _ _ hA hW' hJ')
  · refine z_aload_n (pc := 485) dL_law_485 rfl (by first | rfl | exact z_isr_rf _) ?_
    refine z_iconst_0 (pc := 486) dL_law_486 ?_
    refine z_lald (pc := 487) dL_law_487 (hW'.2.2.1) (z_v01) ?_
    refine z_iload (pc := 488) dL_law_488 rfl ?_
    refine z_if_eq (pc := 490) (tgt := 497) dL_law_490 (by decide) (fun hb => ?_) (fun hb => ?_)
    · refine z_lconst0 (pc := 497) dL_law_497 ?_
      refine z_lcmp (pc := 498) dL_law_498 ?_
      refine z_if_eq (pc := 499) (tgt := 504) dL_law_499 (by decide) (fun _ => ?_) (fun hn => absurd ((lg_cmp_eq _ _).2 ((hvo hz).trans (by rw [← hbr hz, hb]; rfl))) hn)
      refine z_goto (pc := 504) (tgt := 1469) dL_law_504 (by decide) ?_
      exact z_E.le (by omega) (by omega) (nx A' I' N' O' B' M' vo' vd _ _ _ hA hW' hJ')
    · refine z_lconst1 (pc := 493) dL_law_493 ?_
      refine z_goto (pc := 494) (tgt := 498) dL_law_494 (by decide) ?_
      refine z_lcmp (pc := 498) dL_law_498 ?_
      refine z_if_eq (pc := 499) (tgt := 504) dL_law_499 (by decide) (fun _ => ?_) (fun hn => absurd ((lg_cmp_eq _ _).2 ((hvo hz).trans (by rw [(hq.2 hz).resolve_left (fun q => hb ((hbr hz).trans q))]; rfl))) hn)
      refine z_goto (pc := 504) (tgt := 1469) dL_law_504 (by decide) ?_
      exact z_E.le (by omega) (by omega) (nx A' I' N' O' B' M' vo' vd _ _ _ hA hW' hJ')
theorem kL_end (h : z_LW G A I N O B A6 M qo qd vo vd w) (hJ : z_J I N O B M) (hL : G.2.2.2.2.2.1 ≤ 2048) (hi : i + 4 ≤ G.2.2.2.2.2.1) (hk : 24 ≤ k) (hn : 84 ≤ n) (nx : z_nxt G A A6 qo qd i Z (k - 24) (n - 84)) (x6 x7 : Option Value) : z_E G zL_law 9 Z 507 [some (.ref G.2.2.2.2.1), some (.ref (A 0 0 0)), some (.ref (A6 22 0 0)), some (.ref qo), some (.ref qd), some (.int (nI i)), x6, x7] [] w k n := by
  have v1 : vp_in (nI i + 1) G.2.2.2.2.2.1 := by rw [show (1 : Int32) = nI 1 from rfl, nI_add]; exact vp_in_nI (by omega) (by omega)
  refine z_aload_n (pc := 507) dL_law_507 rfl (by first | rfl | exact z_isr_rf _) ?_
  refine z_aload_n (pc := 508) dL_law_508 rfl (by first | rfl | exact z_isr_rf _) ?_
  refine z_iload (pc := 509) dL_law_509 rfl ?_
  refine z_iconst_1 (pc := 511) dL_law_511 ?_
  refine z_iadd (pc := 512) dL_law_512 ?_
  refine z_sld (pc := 513) dL_law_513 (v1) ?_
  refine z_aload_n (pc := 514) dL_law_514 rfl (by first | rfl | exact z_isr_rf _) ?_
  refine z_callSX (pc := 515) (wL_end h hJ (G.2.2.2.2.2.2 (nI i + 1).toNatClampNeg)) dL_law_515 cwL_112 okL_end rfl (by omega) rfl (Nat.le_of_ble_eq_true rfl) (by omega) (by omega) (fun v wN hN => ?_)
  obtain ⟨kk, r, A', I', N', O', B', vo', rfl, hq, hvo, hA, hW⟩ := hN
  refine z_istore6 (pc := 518) dL_law_518 ?_
  refine z_aload_n (pc := 520) dL_law_520 rfl (by first | rfl | exact z_isr_rf _) ?_
  refine z_aload_n (pc := 521) dL_law_521 rfl (by first | rfl | exact z_isr_rf _) ?_
  refine z_iload (pc := 522) dL_law_522 rfl ?_
  refine z_iconst_1 (pc := 524) dL_law_524 ?_
  refine z_iadd (pc := 525) dL_law_525 ?_
  refine z_sld (pc := 526) dL_law_526 (v1) ?_
  refine z_callV (pc := 527) (rL_end hW.2.1 hJ (G.2.2.2.2.2.2 (nI i + 1).toNatClampNeg) hq) dL_law_527 cwL_114 okX6_end rfl (hW.2.1.k22) rfl rfl (by omega) rfl (Nat.le_of_ble_eq_true rfl) (by omega) (by omega) (fun _ _ h => h.elim) (fun v wN hN => ?_)
  obtain ⟨b, M', rfl, hJ', h21, hbr, hM', hf'⟩ := hN
  have hW' := hW.ref hM' hf'
  refine z_istore7 (pc := 530) dL_law_530 ?_
  refine z_aload_n (pc := 532) dL_law_532 rfl (by first | rfl | exact z_isr_rf _) ?_
  refine z_callVp (pc := 533) (mX6_thrown hM') dL_law_533 cwL_92 okX6_thrown rfl (hM'.k22) rfl rfl (by omega) rfl (Nat.le_of_ble_eq_true rfl) ?_
  rw [h21]
  refine z_iload (pc := 536) dL_law_536 rfl ?_
  refine z_icmp_eq (pc := 538) (tgt := 543) dL_law_538 (by decide) (fun _ => ?_) (fun hn => absurd (rfl) hn)
  refine z_iload (pc := 543) dL_law_543 rfl ?_
  refine z_if_ne (pc := 545) (tgt := 560) dL_law_545 (by decide) (fun hz => ?_) (fun hz => ?_)
  · refine z_goto (pc := 560) (tgt := 1469) dL_law_560 (by decide) ?_
    exact z_E.le (by omega) (by omega) (nx A' I' N' O' B' M' vo' vd _ _ _ hA hW' hJ')
  · refine z_aload_n (pc := 548) dL_law_548 rfl (by first | rfl | exact z_isr_rf _) ?_
    refine z_iconst_0 (pc := 549) dL_law_549 ?_
    refine z_lald (pc := 550) dL_law_550 (hW'.2.2.1) (z_v01) ?_
    refine z_iload (pc := 551) dL_law_551 rfl ?_
    refine z_i2l (pc := 553) dL_law_553 ?_
    refine z_lcmp (pc := 554) dL_law_554 ?_
    refine z_if_eq (pc := 555) (tgt := 560) dL_law_555 (by decide) (fun _ => ?_) (fun hn => absurd ((lg_cmp_eq _ _).2 ((hvo hz).trans (by rw [hbr hz]))) hn)
    refine z_goto (pc := 560) (tgt := 1469) dL_law_560 (by decide) ?_
    exact z_E.le (by omega) (by omega) (nx A' I' N' O' B' M' vo' vd _ _ _ hA hW' hJ')
theorem kL_position (h : z_LW G A I N O B A6 M qo qd vo vd w) (hJ : z_J I N O B M) (hL : G.2.2.2.2.2.1 ≤ 2048) (hi : i + 4 ≤ G.2.2.2.2.2.1) (hk : 24 ≤ k) (hn : 84 ≤ n) (nx : z_nxt G A A6 qo qd i Z (k - 24) (n - 84)) (x6 x7 : Option Value) : z_E G zL_law 9 Z 563 [some (.ref G.2.2.2.2.1), some (.ref (A 0 0 0)), some (.ref (A6 22 0 0)), some (.ref qo), some (.ref qd), some (.int (nI i)), x6, x7] [] w k n := by
  refine z_aload_n (pc := 563) dL_law_563 rfl (by first | rfl | exact z_isr_rf _) ?_
  refine z_callVp (pc := 564) (mX5_position h.1 hJ.1) dL_law_564 cwL_115 okX5_position rfl (h.1.k0) rfl rfl (by omega) rfl (Nat.le_of_ble_eq_true rfl) ?_
  refine z_aload_n (pc := 567) dL_law_567 rfl (by first | rfl | exact z_isr_rf _) ?_
  refine z_callV (pc := 568) (mX6_position h.2.1) dL_law_568 cwL_118 okX6_position rfl (h.2.1.k22) rfl rfl (by omega) rfl (Nat.le_of_ble_eq_true rfl) (by omega) (by omega) (fun _ _ h => h.elim) (fun v wN hN => ?_)
  obtain ⟨rfl, hM', hf'⟩ := hN
  have hW' := h.ref hM' hf'
  refine z_icmp_eq (pc := 571) (tgt := 1469) dL_law_571 (by decide) (fun _ => ?_) (fun hn => absurd (hJ.qposition) hn)
  exact z_E.le (by omega) (by omega) (nx A I N O B _ vo vd _ _ _ rfl hW' (hJ.set21 0))
theorem kL_games (h : z_LW G A I N O B A6 M qo qd vo vd w) (hJ : z_J I N O B M) (hL : G.2.2.2.2.2.1 ≤ 2048) (hi : i + 4 ≤ G.2.2.2.2.2.1) (hk : 24 ≤ k) (hn : 84 ≤ n) (nx : z_nxt G A A6 qo qd i Z (k - 24) (n - 84)) (x6 x7 : Option Value) : z_E G zL_law 9 Z 576 [some (.ref G.2.2.2.2.1), some (.ref (A 0 0 0)), some (.ref (A6 22 0 0)), some (.ref qo), some (.ref qd), some (.int (nI i)), x6, x7] [] w k n := by
  refine z_aload_n (pc := 576) dL_law_576 rfl (by first | rfl | exact z_isr_rf _) ?_
  refine z_callVp (pc := 577) (mX5_games h.1) dL_law_577 cwL_119 okX5_games rfl (h.1.k0) rfl rfl (by omega) rfl (Nat.le_of_ble_eq_true rfl) ?_
  refine z_aload_n (pc := 580) dL_law_580 rfl (by first | rfl | exact z_isr_rf _) ?_
  refine z_callV (pc := 581) (mX6_games h.2.1 hJ.en.2.2) dL_law_581 cwL_122 okX6_games rfl (h.2.1.k22) rfl rfl (by omega) rfl (Nat.le_of_ble_eq_true rfl) (by omega) (by omega) (fun _ _ h => h.elim) (fun v wN hN => ?_)
  obtain ⟨rfl, hM', hf'⟩ := hN
  have hW' := h.ref hM' hf'
  refine z_icmp_eq (pc := 584) (tgt := 1469) dL_law_584 (by decide) (fun _ => ?_) (fun hn => absurd (hJ.qgames) hn)
  exact z_E.le (by omega) (by omega) (nx A I N O B _ vo vd _ _ _ rfl hW' (hJ.set21 0))
end LAW2

