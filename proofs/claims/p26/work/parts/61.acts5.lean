/-! an end -/
theorem z_mskv : ∀ i, i < 6 → (((1 : Int32) <<< ((2 * nI i + 2) &&& 31)) - 1).toBitVec.toNat = 2 ^ (2 * (i + 1)) - 1 := by decide +kernel
theorem z_msk {l i : Nat} (hl : l < 2 ^ 31) (hi : i < 6) : nI l &&& (((1 : Int32) <<< ((2 * nI i + 2) &&& 31)) - 1) = nI (l % 4 ^ (i + 1)) := by
  rw [pk_andN (by omega) (2 * (i + 1)) (z_mskv i hi), Nat.pow_mul]
theorem z_as (a b c : Int32) : a + (b - c) = a + b - c := by
  rw [Int32.sub_eq_add_neg, Int32.sub_eq_add_neg, Int32.add_assoc]
noncomputable def z_hd1 (I : z_TI) (mv : Nat → Nat) (i : Nat) : Int32 := z_if (z_al I (i + 1) (z_px mv (i + 1))) (I 11 (i + 1) (z_px mv (i + 1))) (-1)
theorem z_LI.fin {I I' : z_TI} {N N' : z_TN} {fp fw fg : Nat → Int32} {g : Nat} {x c : Int32} (h : z_LI I N (some g) fp fw fg) (hE : z_endP I N (some g) g x I' N' c) (hg1 : g + 1 = N 1 0) (h3 : N 3 g < N 0 0) (h4 : N 4 g < N 0 0) (h34 : N 3 g ≠ N 4 g) : z_LI I' N' none fp (upd (upd fw (N 3 g) (fw (N 3 g) + 1)) (N 4 g) (upd fw (N 3 g) (fw (N 3 g) + 1) (N 4 g) - 1)) (upd (upd fg 2 0) 1 (nI (g + 1))) := by
  obtain ⟨⟨T, t1, t2, t3⟩, ⟨hw1, hw2⟩, h1, g0, g1, g2, g3⟩ := h
  obtain ⟨-, -, -, E4, E5, -⟩ := hE
  have e0 := E4 0 (by decide) (by decide)
  have e1 := E4 1 (by decide) (by decide)
  have i4 : I' 4 = I 4 := (E5 4 (by decide) (by decide) (by decide) (by decide) (by decide)).trans (z_e2_f (by decide) (by decide) (by decide) (by decide) (by decide))
  have i0 := E5 0 (by decide) (by decide) (by decide) (by decide) (by decide)
  have i1 := E5 1 (by decide) (by decide) (by decide) (by decide) (by decide)
  unfold z_LI z_tr
  rw [i4, e0]
  refine ⟨⟨T, t1, t2, t3⟩, ⟨fun p hp => ?_, fun p hp hp8 => ?_⟩, h1, g0, ?_, rfl, fun g' hg => (by cases hg)⟩
  · rw [i0, i1, z_e2_0, z_e2_1]
    by_cases q4 : p = N 4 g
    · have q3 : ¬ p = N 3 g := fun z => h34 (z.symm.trans q4)
      rw [q4, z_upd_s, z_upd_n _ _ (Ne.symm h34), if_neg (Ne.symm h34), if_pos rfl, hw1 _ h4]
      exact z_cb2 _ _
    · rw [z_upd_n _ _ q4, if_neg q4]
      by_cases q3 : p = N 3 g
      · rw [q3, z_upd_s, if_pos rfl, hw1 _ h3]
        exact z_cb1 _ _
      · rw [z_upd_n _ _ q3, if_neg q3]
        exact hw1 p hp
  · rw [z_upd_n _ _ (by omega), z_upd_n _ _ (by omega)]
    exact hw2 p hp hp8
  · show nI (g + 1) = nI (N' 1 0)
    rw [e1, hg1]
section LJ
variable {G : z_G} {F : Nat → Prop} {a0 ap aw ag : Nat} {ws w : z_W} {I : z_TI} {N : z_TN} {oc : Option Nat} {B : z_TB}
theorem iL_actF1 {q : Nat} (hFg : F ag) (hFq : F q) (hnq : ag ≠ q) {fg : Nat → Int32} (hwg : ws ag = some (.inl (G.2.1 0, 7, .inl fg))) {mv : Nat → Nat} {kn : Nat} (f4 : fg 4 = nI (z_px mv kn)) (hmv : ∀ i, i < kn → mv i < 4) (h6 : kn ≤ 6) {Z : z_Gq} {x1 x2 x4 x5 x6 x7 x9 x10 x11 x15 : Option Value} {ck sk : Nat} (kk : ∀ ws' w' fh x13 x14, z_V G F a0 ws' I N oc B w' → (∀ b, b ≠ q → ws' b = ws b) → ws' q = some (.inl (G.2.1 0, 6, .inl fh)) → (∀ i, i < kn → fh i = z_hd1 I mv i) → z_E G zL_acts 10 Z 459 [some (.ref a0), x1, x2, some (.ref ag), x4, x5, x6, x7, some (.int (nI kn)), x9, x10, x11, some (.ref q), x13, x14, x15] [] w' ck sk) : ∀ m i : Nat, kn - i = m → i ≤ kn → ∀ ws1 w1 fh x14 ck' sk', z_V G F a0 ws1 I N oc B w1 → (∀ b, b ≠ q → ws1 b = ws b) → ws1 q = some (.inl (G.2.1 0, 6, .inl fh)) → (∀ j, j < i → fh j = z_hd1 I mv j) → ck + 2 * m ≤ ck' → sk + 12 * m ≤ sk' → z_E G zL_acts 10 Z 397 [some (.ref a0), x1, x2, some (.ref ag), x4, x5, x6, x7, some (.int (nI kn)), x9, x10, x11, some (.ref q), some (.int (nI i)), x14, x15] [] w1 ck' sk' := by
  intro m
  induction m with
  | zero =>
    intro i hm hi ws1 w1 fh x14 ck' sk' hV o1 e1 hfh h1 h2
    have e : i = kn := by omega
    subst e
    refine z_iload (pc := 397) dL_acts_397 rfl ?_
    refine z_iload (pc := 399) dL_acts_399 rfl ?_
    refine z_icmp_ge (pc := 401) (tgt := 459) dL_acts_401 (by decide) (fun _ => ?_) (fun hn => absurd (nI_le (Nat.le_refl _) (by omega)) hn)
    exact z_E.mono (by omega) (by omega) (kk ws1 w1 fh _ _ hV o1 e1 hfh)
  | succ m ih =>
    intro i hm hi ws1 w1 fh x14 ck' sk' hV o1 e1 hfh h1 h2
    have hik : i < kn := by omega
    have hpl := z_px_lt hmv (i + 1) (by omega)
    have hp4 := z_p4 (i + 1) (by omega)
    have hpk := z_px_lt hmv kn (Nat.le_refl _)
    have hpk4 := z_p4 kn (by omega)
    have hln : z_ln (nI (z_px mv (i + 1))) (nI (i + 1)) := ⟨_, _, by omega, by omega, hpl, rfl, rfl⟩
    have cl := nI_clamp (show z_px mv (i + 1) < 2 ^ 31 by omega)
    have cn := nI_clamp (show i + 1 < 2 ^ 31 by omega)
    have hg := (hV.at hFg).trans ((o1 ag hnq).trans hwg)
    have hq := (hV.at hFq).trans e1
    have go : ∀ (v : Int32) (x14 : Option Value) (ck1 sk1 : Nat), v = z_hd1 I mv i → ck + 2 * m ≤ ck1 → sk + 12 * m ≤ sk1 → z_E G zL_acts 10 Z 452 [some (.ref a0), x1, x2, some (.ref ag), x4, x5, x6, x7, some (.int (nI kn)), x9, x10, x11, some (.ref q), some (.int (nI i)), x14, x15] [.int v, .int (nI i), .ref q] w1 ck1 sk1 := by
      intro v x14 ck1 sk1 hv h3 h4
      refine z_iast (pc := 452) dL_acts_452 (hq) (vp_in_nI (by omega) (by omega)) ?_
      rw [nI_clamp (show i < 2 ^ 31 by omega)]
      refine z_genU hV hFq (fun ws2 w2 hV2 e2 o2 => ?_)
      refine z_iinc13 (pc := 453) dL_acts_453 ?_
      refine z_goto (pc := 456) (tgt := 397) dL_acts_456 (by decide) ?_
      rw [nI_1]
      refine ih (i + 1) (by omega) hik ws2 w2 _ _ _ _ hV2 (fun b hb => (o2 b hb).trans (o1 b hb)) e2 (fun j hj => ?_) h3 h4
      by_cases r : j = i
      · rw [r, z_upd_s, hv]
      · rw [z_upd_n _ _ r]
        exact hfh j (by omega)
    refine z_iload (pc := 397) dL_acts_397 rfl ?_
    refine z_iload (pc := 399) dL_acts_399 rfl ?_
    refine z_icmp_ge (pc := 401) (tgt := 459) dL_acts_401 (by decide) (fun hn => absurd hn (nI_ge hik (by omega))) (fun _ => ?_)
    refine z_aload_n (pc := 404) dL_acts_404 rfl (by first | rfl | exact z_isr_rf _) ?_
    refine z_iconst_4 (pc := 405) dL_acts_405 ?_
    refine z_iald (pc := 406) dL_acts_406 (hg) (z_v4) ?_
    refine z_iconst_1 (pc := 407) dL_acts_407 ?_
    refine z_iconst_2 (pc := 408) dL_acts_408 ?_
    refine z_iload (pc := 409) dL_acts_409 rfl ?_
    refine z_imul (pc := 411) dL_acts_411 ?_
    refine z_iconst_2 (pc := 412) dL_acts_412 ?_
    refine z_iadd (pc := 413) dL_acts_413 ?_
    refine z_ishl (pc := 414) dL_acts_414 ?_
    refine z_iconst_1 (pc := 415) dL_acts_415 ?_
    refine z_isub (pc := 416) dL_acts_416 ?_
    refine z_iand (pc := 417) dL_acts_417 ?_
    rw [z_c4, f4, z_msk (by omega) (by omega), z_px_le hmv kn hik (Nat.le_refl _)]
    refine z_istore14 (pc := 418) dL_acts_418 ?_
    refine z_aload (pc := 420) dL_acts_420 rfl (by first | rfl | exact z_isr_rf _) ?_
    refine z_iload (pc := 422) dL_acts_422 rfl ?_
    refine z_aload_n (pc := 424) dL_acts_424 rfl (by first | rfl | exact z_isr_rf _) ?_
    refine z_iload (pc := 425) dL_acts_425 rfl ?_
    refine z_iload (pc := 427) dL_acts_427 rfl ?_
    refine z_iconst_1 (pc := 429) dL_acts_429 ?_
    refine z_iadd (pc := 430) dL_acts_430 ?_
    rw [nI_1]
    refine z_callSXp (pc := 431) (wL_isDropped hV (nI (z_px mv (i + 1))) (nI (i + 1))) dL_acts_431 cwL_122 okL_isDropped rfl (by omega) rfl (Nat.le_of_ble_eq_true rfl) (by omega) (by omega) ?_
    rw [z_if_t hln, cl, cn]
    refine z_iconst_1 (pc := 434) dL_acts_434 ?_
    by_cases al : z_al I (i + 1) (z_px mv (i + 1))
    · rw [z_b_f (fun z => z al)]
      refine z_icmp_ne (pc := 435) (tgt := 442) dL_acts_435 (by decide) (fun _ => ?_) (fun hn => absurd hn (by decide))
      refine z_aload_n (pc := 442) dL_acts_442 rfl (by first | rfl | exact z_isr_rf _) ?_
      refine z_iload (pc := 443) dL_acts_443 rfl ?_
      refine z_iload (pc := 445) dL_acts_445 rfl ?_
      refine z_iconst_1 (pc := 447) dL_acts_447 ?_
      refine z_iadd (pc := 448) dL_acts_448 ?_
      rw [nI_1]
      refine z_callSXp (pc := 449) (wL_results hV (nI (z_px mv (i + 1))) (nI (i + 1))) dL_acts_449 cwL_116 okL_results rfl (by omega) rfl (Nat.le_of_ble_eq_true rfl) (by omega) (by omega) ?_
      rw [z_if_t hln, cl, cn]
      exact go _ _ _ _ (by unfold z_hd1; rw [z_if_t al]) (by omega) (by omega)
    · rw [z_b_t al]
      refine z_icmp_ne (pc := 435) (tgt := 442) dL_acts_435 (by decide) (fun hn => absurd (rfl) hn) (fun _ => ?_)
      refine z_iconst_m1 (pc := 438) dL_acts_438 ?_
      refine z_goto (pc := 439) (tgt := 452) dL_acts_439 (by decide) ?_
      exact go _ _ _ _ (by unfold z_hd1; rw [z_if_f al]) (by omega) (by omega)
theorem iL_actF2 {q : Nat} (hFg : F ag) (hFq : F q) {fg fh : Nat → Int32} {I0 : z_TI} (hV : z_V G F a0 ws I N oc B w) (hwg : ws ag = some (.inl (G.2.1 0, 7, .inl fg))) (hwq : ws q = some (.inl (G.2.1 0, 6, .inl fh))) {mv : Nat → Nat} {kn : Nat} (f4 : fg 4 = nI (z_px mv kn)) (hmv : ∀ i, i < kn → mv i < 4) (h6 : kn ≤ 6) (hfh : ∀ i, i < kn → fh i = z_hd1 I0 mv i) (hres : ∀ i, i < kn → z_al I0 (i + 1) (z_px mv (i + 1)) → I 11 (i + 1) (z_px mv (i + 1)) = I0 11 (i + 1) (z_px mv (i + 1)) + 1) (hnn : ∀ i, i < kn → ∃ c, I0 11 (i + 1) (z_px mv (i + 1)) = nI c ∧ c ≤ 60) {Z : z_Gq} {x1 x2 x4 x5 x6 x7 x9 x10 x11 : Option Value} {ck sk : Nat} (kk : ∀ x14 x15, z_E G zL_acts 10 Z 672 [some (.ref a0), x1, x2, some (.ref ag), x4, x5, x6, x7, some (.int (nI kn)), x9, x10, x11, some (.ref q), some (.int 1), x14, x15] [] w ck sk) : ∀ m i : Nat, kn - i = m → i ≤ kn → ∀ x15 ck' sk', ck + 19 * m ≤ ck' → sk + 114 * m ≤ sk' → z_E G zL_acts 10 Z 590 [some (.ref a0), x1, x2, some (.ref ag), x4, x5, x6, x7, some (.int (nI kn)), x9, x10, x11, some (.ref q), some (.int 1), some (.int (nI i)), x15] [] w ck' sk' := by
  have hg := (hV.at hFg).trans hwg
  have hq := (hV.at hFq).trans hwq
  intro m
  induction m with
  | zero =>
    intro i hm hi x15 ck' sk' h1 h2
    have e : i = kn := by omega
    subst e
    refine z_iload (pc := 590) dL_acts_590 rfl ?_
    refine z_iload (pc := 592) dL_acts_592 rfl ?_
    refine z_icmp_ge (pc := 594) (tgt := 672) dL_acts_594 (by decide) (fun _ => ?_) (fun hn => absurd (nI_le (Nat.le_refl _) (by omega)) hn)
    exact z_E.mono (by omega) (by omega) (kk _ _)
  | succ m ih =>
    intro i hm hi x15 ck' sk' h1 h2
    have hik : i < kn := by omega
    have hpl := z_px_lt hmv (i + 1) (by omega)
    have hp4 := z_p4 (i + 1) (by omega)
    have hpk := z_px_lt hmv kn (Nat.le_refl _)
    have hpk4 := z_p4 kn (by omega)
    have hln : z_ln (nI (z_px mv (i + 1))) (nI (i + 1)) := ⟨_, _, by omega, by omega, hpl, rfl, rfl⟩
    have cl := nI_clamp (show z_px mv (i + 1) < 2 ^ 31 by omega)
    have cn := nI_clamp (show i + 1 < 2 ^ 31 by omega)
    have ci := nI_clamp (show i < 2 ^ 31 by omega)
    have vi : vp_in (nI i) 6 := vp_in_nI (by omega) (by omega)
    obtain ⟨c, hc, hc60⟩ := hnn i hik
    have go : ∀ ck1 sk1, ck + 19 * m + 18 ≤ ck1 → sk + 114 * m + 108 ≤ sk1 → z_E G zL_acts 10 Z 646 [some (.ref a0), x1, x2, some (.ref ag), x4, x5, x6, x7, some (.int (nI kn)), x9, x10, x11, some (.ref q), some (.int 1), some (.int (nI i)), some (.int (nI (z_px mv (i + 1))))] [] w ck1 sk1 := by
      intro ck1 sk1 h3 h4
      refine z_aload_n (pc := 646) dL_acts_646 rfl (by first | rfl | exact z_isr_rf _) ?_
      refine z_iload (pc := 647) dL_acts_647 rfl ?_
      refine z_iload (pc := 649) dL_acts_649 rfl ?_
      refine z_iconst_1 (pc := 651) dL_acts_651 ?_
      refine z_iadd (pc := 652) dL_acts_652 ?_
      rw [nI_1]
      refine z_callSq (pc := 653) (mL_line hV (l := z_px mv (i + 1)) (n := i + 1) (by omega) (by omega) hpl) dL_acts_653 cwL_145 okL_line rfl (by omega) rfl (Nat.le_of_ble_eq_true rfl) (by omega) (by omega) ?_
      refine z_if_eq (pc := 656) (tgt := 663) dL_acts_656 (by decide) (fun hn => absurd hn (by decide)) (fun _ => ?_)
      refine z_iconst_1 (pc := 659) dL_acts_659 ?_
      refine z_goto (pc := 660) (tgt := 664) dL_acts_660 (by decide) ?_
      refine z_istore13 (pc := 664) dL_acts_664 ?_
      refine z_iinc14 (pc := 666) dL_acts_666 ?_
      refine z_goto (pc := 669) (tgt := 590) dL_acts_669 (by decide) ?_
      rw [nI_1]
      exact ih (i + 1) (by omega) hik _ _ _ (by omega) (by omega)
    refine z_iload (pc := 590) dL_acts_590 rfl ?_
    refine z_iload (pc := 592) dL_acts_592 rfl ?_
    refine z_icmp_ge (pc := 594) (tgt := 672) dL_acts_594 (by decide) (fun hn => absurd hn (nI_ge hik (by omega))) (fun _ => ?_)
    refine z_aload_n (pc := 597) dL_acts_597 rfl (by first | rfl | exact z_isr_rf _) ?_
    refine z_iconst_4 (pc := 598) dL_acts_598 ?_
    refine z_iald (pc := 599) dL_acts_599 (hg) (z_v4) ?_
    refine z_iconst_1 (pc := 600) dL_acts_600 ?_
    refine z_iconst_2 (pc := 601) dL_acts_601 ?_
    refine z_iload (pc := 602) dL_acts_602 rfl ?_
    refine z_imul (pc := 604) dL_acts_604 ?_
    refine z_iconst_2 (pc := 605) dL_acts_605 ?_
    refine z_iadd (pc := 606) dL_acts_606 ?_
    refine z_ishl (pc := 607) dL_acts_607 ?_
    refine z_iconst_1 (pc := 608) dL_acts_608 ?_
    refine z_isub (pc := 609) dL_acts_609 ?_
    refine z_iand (pc := 610) dL_acts_610 ?_
    rw [z_c4, f4, z_msk (by omega) (by omega), z_px_le hmv kn hik (Nat.le_refl _)]
    refine z_istore15 (pc := 611) dL_acts_611 ?_
    refine z_iload (pc := 613) dL_acts_613 rfl ?_
    refine z_if_eq (pc := 615) (tgt := 663) dL_acts_615 (by decide) (fun hn => absurd hn (by decide)) (fun _ => ?_)
    refine z_aload (pc := 618) dL_acts_618 rfl (by first | rfl | exact z_isr_rf _) ?_
    refine z_iload (pc := 620) dL_acts_620 rfl ?_
    refine z_iald (pc := 622) dL_acts_622 (hq) (vi) ?_
    rw [ci, hfh i hik]
    by_cases al : z_al I0 (i + 1) (z_px mv (i + 1))
    · have hd : z_hd1 I0 mv i = nI c := by unfold z_hd1; rw [z_if_t al, hc]
      rw [hd]
      refine z_if_lt (pc := 623) (tgt := 646) dL_acts_623 (by decide) (fun hn => absurd hn (nI_pos (by omega))) (fun _ => ?_)
      refine z_aload_n (pc := 626) dL_acts_626 rfl (by first | rfl | exact z_isr_rf _) ?_
      refine z_iload (pc := 627) dL_acts_627 rfl ?_
      refine z_iload (pc := 629) dL_acts_629 rfl ?_
      refine z_iconst_1 (pc := 631) dL_acts_631 ?_
      refine z_iadd (pc := 632) dL_acts_632 ?_
      rw [nI_1]
      refine z_callSXp (pc := 633) (wL_results hV (nI (z_px mv (i + 1))) (nI (i + 1))) dL_acts_633 cwL_116 okL_results rfl (by omega) rfl (Nat.le_of_ble_eq_true rfl) (by omega) (by omega) ?_
      rw [z_if_t hln, cl, cn, hres i hik al, hc]
      refine z_aload (pc := 636) dL_acts_636 rfl (by first | rfl | exact z_isr_rf _) ?_
      refine z_iload (pc := 638) dL_acts_638 rfl ?_
      refine z_iald (pc := 640) dL_acts_640 (hq) (vi) ?_
      refine z_iconst_1 (pc := 641) dL_acts_641 ?_
      refine z_iadd (pc := 642) dL_acts_642 ?_
      rw [ci, hfh i hik, hd]
      refine z_icmp_ne (pc := 643) (tgt := 663) dL_acts_643 (by decide) (fun hn => absurd (rfl) hn) (fun _ => ?_)
      exact go _ _ (by omega) (by omega)
    · have hd : z_hd1 I0 mv i = -1 := by unfold z_hd1; rw [z_if_f al]
      rw [hd]
      refine z_if_lt (pc := 623) (tgt := 646) dL_acts_623 (by decide) (fun _ => ?_) (fun hn => absurd (by decide) hn)
      exact go _ _ (by omega) (by omega)
theorem iL_actF3 {q : Nat} (hF : F ap ∧ F aw ∧ F ag) (hne : ap ≠ aw ∧ ap ≠ ag ∧ aw ≠ ag) {fp fw fg : Nat → Int32} (hqF : ¬ F q) {F1 : Nat → Prop} (hF1 : ∀ a, F1 a ↔ F a ∨ a = q) {I0 : z_TI} {N0 : z_TN} {g rr : Nat} {c' : Int32} {fh : Nat → Int32} (hV : z_V G F1 a0 ws I N none B w) (hwp : ws ap = some (.inl (G.2.1 0, 16, .inl fp))) (hww : ws aw = some (.inl (G.2.1 0, 8, .inl fw))) (hwg : ws ag = some (.inl (G.2.1 0, 7, .inl fg))) (hwq : ws q = some (.inl (G.2.1 0, 6, .inl fh))) (hLI : z_LI I0 N0 (some g) fp fw fg) (hE : z_endP I0 N0 (some g) g (nI rr) I N c') (hg1 : g + 1 = N0 1 0) (h12 : N0 5 g ≤ 12) (h3 : N0 3 g < N0 0 0) (h4 : N0 4 g < N0 0 0) (h34 : N0 3 g ≠ N0 4 g) (hrr : rr < 3) (hmv : ∀ i, i < z_kn N0 g → z_mvs I0 g i < 4) (hfh : ∀ i, i < z_kn N0 g → fh i = z_hd1 I0 (z_mvs I0 g) i) (hnn : ∀ i, i < z_kn N0 g → ∃ c, I0 11 (i + 1) (z_px (z_mvs I0 g) (i + 1)) = nI c ∧ c ≤ 60) {x1 x4 x5 x6 x13 x14 x15 : Option Value} : z_E G zL_acts 10 (z_aq G F a0 ap aw ag) 475 [some (.ref a0), x1, some (.ref aw), some (.ref ag), x4, x5, x6, some (.int (nI rr)), some (.int (nI (z_kn N0 g))), some (.int (I0 2 (N0 3 g) 0)), some (.int (I0 2 (N0 4 g) 0)), some (.int (nI (N0 2 0))), some (.ref q), x13, x14, x15] [.int c'] w 144 800 := by
  have hn := hV.n
  have hLI2 := hLI
  obtain ⟨-, -, h1, g0, g1, g2, g3⟩ := hLI2
  obtain ⟨f3, f4, f5, f6⟩ := g3 g rfl
  have hE2 := hE
  obtain ⟨E1, E2, E3, E4, E5, E6⟩ := hE2
  have e0 := E4 0 (by decide) (by decide)
  have e1 := E4 1 (by decide) (by decide)
  rw [e0] at hn
  have g1 : fg 1 = nI g := by rw [g1]; show nI (N0 1 0 - 1) = nI g; rw [← hg1]; rfl
  have hFg := (hF1 ag).2 (Or.inl hF.2.2)
  have hFw := (hF1 aw).2 (Or.inl hF.2.1)
  have hFq := (hF1 q).2 (Or.inr rfl)
  have nqg : q ≠ ag := fun z => hqF (z ▸ hF.2.2)
  have nqw : q ≠ aw := fun z => hqF (z ▸ hF.2.1)
  have nqp : q ≠ ap := fun z => hqF (z ▸ hF.1)
  have hk6 : z_kn N0 g ≤ 6 := by unfold z_kn; split <;> omega
  have hk5 : z_kn N0 g ≤ N0 5 g := by unfold z_kn; split <;> omega
  have hg := (hV.at hFg).trans hwg
  obtain ⟨fs3, hk3⟩ := hV.k0
  have i2 := E5 2 (by decide) (by decide) (by decide) (by decide) (by decide)
  have s3 : I 2 (N0 3 g) 0 = I0 2 (N0 3 g) 0 + nI rr := by rw [i2, z_e2_2 h34, if_pos rfl]
  have s4 : I 2 (N0 4 g) 0 = I0 2 (N0 4 g) 0 + (2 - nI rr) := by rw [i2, z_e2_2 h34, if_neg (Ne.symm h34), if_pos rfl]
  have r3 : z_rg (nI (N0 3 g)) (N 0 0) := ⟨_, by rw [e0]; exact h3, rfl⟩
  have r4 : z_rg (nI (N0 4 g)) (N 0 0) := ⟨_, by rw [e0]; exact h4, rfl⟩
  have v3 : vp_in (nI (N0 3 g)) 8 := vp_in_nI (by omega) (by omega)
  have v4 : vp_in (nI (N0 4 g)) 8 := vp_in_nI (by omega) (by omega)
  have c3 := nI_clamp (show N0 3 g < 2 ^ 31 by omega)
  have c4 := nI_clamp (show N0 4 g < 2 ^ 31 by omega)
  refine z_iload (pc := 475) dL_acts_475 rfl ?_
  refine z_iadd (pc := 477) dL_acts_477 ?_
  refine z_aload_n (pc := 478) dL_acts_478 rfl (by first | rfl | exact z_isr_rf _) ?_
  refine z_callVp (pc := 479) (vX_puzzles hV) dL_acts_479 cwL_105 okX5_puzzles rfl (hk3) rfl rfl (by omega) rfl (Nat.le_of_ble_eq_true rfl) ?_
  refine z_icmp_ne (pc := 482) (tgt := 554) dL_acts_482 (by decide) (fun hn => absurd (E1) hn) (fun _ => ?_)
  refine z_aload_n (pc := 485) dL_acts_485 rfl (by first | rfl | exact z_isr_rf _) ?_
  refine z_iload (pc := 486) dL_acts_486 rfl ?_
  refine z_callSX (pc := 488) (wL_end hV (nI rr)) dL_acts_488 cwL_143 okL_end rfl (by omega) rfl (Nat.le_of_ble_eq_true rfl) (by omega) (by omega) (fun v wN hN => ?_)
  rcases hN with ⟨g', eg, -⟩ | ⟨rfl, ⟨hr, -⟩ | ⟨-, -, rfl⟩⟩
  · cases eg
  · exact absurd ⟨rr, hrr, rfl⟩ hr
  · refine z_ldc (pc := 491) dL_acts_491 cc32 ?_
    refine z_icmp_ne (pc := 493) (tgt := 554) dL_acts_493 (by decide) (fun hn => absurd (rfl) hn) (fun _ => ?_)
    refine z_aload_n (pc := 496) dL_acts_496 rfl (by first | rfl | exact z_isr_rf _) ?_
    refine z_callVp (pc := 497) (vX_position hV) dL_acts_497 cwL_133 okX5_position rfl (hk3) rfl rfl (by omega) rfl (Nat.le_of_ble_eq_true rfl) ?_
    rw [show z_po I none = -1 from rfl]
    refine z_iconst_m1 (pc := 500) dL_acts_500 ?_
    refine z_icmp_ne (pc := 501) (tgt := 554) dL_acts_501 (by decide) (fun hn => absurd (rfl) hn) (fun _ => ?_)
    refine z_aload_n (pc := 504) dL_acts_504 rfl (by first | rfl | exact z_isr_rf _) ?_
    refine z_aload_n (pc := 505) dL_acts_505 rfl (by first | rfl | exact z_isr_rf _) ?_
    refine z_iconst_5 (pc := 506) dL_acts_506 ?_
    refine z_iald (pc := 507) dL_acts_507 (hg) (z_v5) ?_
    rw [z_c5, f5]
    refine z_callSXp (pc := 508) (wL_score hV (nI (N0 3 g))) dL_acts_508 cwL_101 okL_score rfl (by omega) rfl (Nat.le_of_ble_eq_true rfl) (by omega) (by omega) ?_
    rw [z_if_t r3, c3, s3]
    refine z_iload (pc := 511) dL_acts_511 rfl ?_
    refine z_iload (pc := 513) dL_acts_513 rfl ?_
    refine z_iadd (pc := 515) dL_acts_515 ?_
    refine z_icmp_ne (pc := 516) (tgt := 554) dL_acts_516 (by decide) (fun hn => absurd (rfl) hn) (fun _ => ?_)
    refine z_aload_n (pc := 519) dL_acts_519 rfl (by first | rfl | exact z_isr_rf _) ?_
    refine z_aload_n (pc := 520) dL_acts_520 rfl (by first | rfl | exact z_isr_rf _) ?_
    refine z_bipush_6 (pc := 521) dL_acts_521 ?_
    refine z_iald (pc := 523) dL_acts_523 (hg) (z_v6) ?_
    rw [z_c6, f6]
    refine z_callSXp (pc := 524) (wL_score hV (nI (N0 4 g))) dL_acts_524 cwL_101 okL_score rfl (by omega) rfl (Nat.le_of_ble_eq_true rfl) (by omega) (by omega) ?_
    rw [z_if_t r4, c4, s4]
    refine z_iload (pc := 527) dL_acts_527 rfl ?_
    refine z_iconst_2 (pc := 529) dL_acts_529 ?_
    refine z_iadd (pc := 530) dL_acts_530 ?_
    refine z_iload (pc := 531) dL_acts_531 rfl ?_
    refine z_isub (pc := 533) dL_acts_533 ?_
    refine z_icmp_ne (pc := 534) (tgt := 554) dL_acts_534 (by decide) (fun hn => absurd (z_as _ _ _) hn) (fun _ => ?_)
    refine z_aload_n (pc := 537) dL_acts_537 rfl (by first | rfl | exact z_isr_rf _) ?_
    refine z_callVp (pc := 538) (vX_puzzles hV) dL_acts_538 cwL_105 okX5_puzzles rfl (hk3) rfl rfl (by omega) rfl (Nat.le_of_ble_eq_true rfl) ?_
    refine z_iload (pc := 541) dL_acts_541 rfl ?_
    refine z_isub (pc := 543) dL_acts_543 ?_
    refine z_aload_n (pc := 544) dL_acts_544 rfl (by first | rfl | exact z_isr_rf _) ?_
    refine z_iconst_3 (pc := 545) dL_acts_545 ?_
    refine z_iald (pc := 546) dL_acts_546 (hg) (z_v3) ?_
    rw [z_c3, f3, pk_sub E2]
    refine z_icmp_gt (pc := 547) (tgt := 554) dL_acts_547 (by decide) (fun hn => absurd hn (nI_nlt (by omega) (by omega))) (fun _ => ?_)
    refine z_iconst_1 (pc := 550) dL_acts_550 ?_
    refine z_goto (pc := 551) (tgt := 555) dL_acts_551 (by decide) ?_
    refine z_istore13 (pc := 555) dL_acts_555 ?_
    refine z_aload_n (pc := 557) dL_acts_557 rfl (by first | rfl | exact z_isr_rf _) ?_
    refine z_iconst_2 (pc := 558) dL_acts_558 ?_
    refine z_iconst_0 (pc := 559) dL_acts_559 ?_
    refine z_iast (pc := 560) dL_acts_560 (hg) (z_v2) ?_
    rw [z_c2]
    refine z_genU hV hFg (fun ws1 w1 hV1 a1 o1 => ?_)
    refine z_aload_n (pc := 561) dL_acts_561 rfl (by first | rfl | exact z_isr_rf _) ?_
    refine z_iconst_1 (pc := 562) dL_acts_562 ?_
    refine z_dup2 (pc := 563) dL_acts_563 (by first | rfl | exact z_isr_cat (z_isr_rf _)) (by first | rfl | exact z_isr_cat (z_isr_rf _)) ?_
    refine z_iald (pc := 564) dL_acts_564 ((hV1.at hFg).trans a1) (z_v1) ?_
    refine z_iconst_1 (pc := 565) dL_acts_565 ?_
    rw [z_c1, z_upd_n _ _ (show (1 : Nat) ≠ 2 by decide), g1]
    refine z_iadd (pc := 566) dL_acts_566 ?_
    rw [nI_1]
    refine z_iast (pc := 567) dL_acts_567 ((hV1.at hFg).trans a1) (z_v1) ?_
    rw [z_c1]
    refine z_genU hV1 hFg (fun ws2 w2 hV2 a2 o2 => ?_)
    have hw2 : ws2 aw = some (.inl (G.2.1 0, 8, .inl fw)) := (o2 aw hne.2.2).trans ((o1 aw hne.2.2).trans hww)
    refine z_aload_n (pc := 568) dL_acts_568 rfl (by first | rfl | exact z_isr_rf _) ?_
    refine z_aload_n (pc := 569) dL_acts_569 rfl (by first | rfl | exact z_isr_rf _) ?_
    refine z_iconst_5 (pc := 570) dL_acts_570 ?_
    refine z_iald (pc := 571) dL_acts_571 ((hV2.at hFg).trans a2) (z_v5) ?_
    rw [z_c5, z_upd_n _ _ (show (5 : Nat) ≠ 1 by decide), z_upd_n _ _ (show (5 : Nat) ≠ 2 by decide), f5]
    refine z_dup2 (pc := 572) dL_acts_572 (by first | rfl | exact z_isr_cat (z_isr_rf _)) (by first | rfl | exact z_isr_cat (z_isr_rf _)) ?_
    refine z_iald (pc := 573) dL_acts_573 ((hV2.at hFw).trans hw2) (v3) ?_
    refine z_iconst_1 (pc := 574) dL_acts_574 ?_
    refine z_iadd (pc := 575) dL_acts_575 ?_
    rw [c3]
    refine z_iast (pc := 576) dL_acts_576 ((hV2.at hFw).trans hw2) (v3) ?_
    rw [c3]
    refine z_genU hV2 hFw (fun ws3 w3 hV3 a3 o3 => ?_)
    have hg3 := (hV3.at hFg).trans ((o3 ag (Ne.symm hne.2.2)).trans a2)
    refine z_aload_n (pc := 577) dL_acts_577 rfl (by first | rfl | exact z_isr_rf _) ?_
    refine z_aload_n (pc := 578) dL_acts_578 rfl (by first | rfl | exact z_isr_rf _) ?_
    refine z_bipush_6 (pc := 579) dL_acts_579 ?_
    refine z_iald (pc := 581) dL_acts_581 (hg3) (z_v6) ?_
    rw [z_c6, z_upd_n _ _ (show (6 : Nat) ≠ 1 by decide), z_upd_n _ _ (show (6 : Nat) ≠ 2 by decide), f6]
    refine z_dup2 (pc := 582) dL_acts_582 (by first | rfl | exact z_isr_cat (z_isr_rf _)) (by first | rfl | exact z_isr_cat (z_isr_rf _)) ?_
    refine z_iald (pc := 583) dL_acts_583 ((hV3.at hFw).trans a3) (v4) ?_
    refine z_iconst_1 (pc := 584) dL_acts_584 ?_
    refine z_isub (pc := 585) dL_acts_585 ?_
    rw [c4]
    refine z_iast (pc := 586) dL_acts_586 ((hV3.at hFw).trans a3) (v4) ?_
    rw [c4]
    refine z_genU hV3 hFw (fun ws4 w4 hV4 a4 o4 => ?_)
    have hg4 : ws4 ag = some (.inl (G.2.1 0, 7, .inl (upd (upd fg 2 0) 1 (nI (g + 1))))) := (o4 ag (Ne.symm hne.2.2)).trans ((o3 ag (Ne.symm hne.2.2)).trans a2)
    have hq4 : ws4 q = some (.inl (G.2.1 0, 6, .inl fh)) := (o4 q nqw).trans ((o3 q nqw).trans ((o2 q nqg).trans ((o1 q nqg).trans hwq)))
    have hp4 : ws4 ap = some (.inl (G.2.1 0, 16, .inl fp)) := (o4 ap hne.1).trans ((o3 ap hne.1).trans ((o2 ap hne.2.1).trans ((o1 ap hne.2.1).trans hwp)))
    refine z_iconst_0 (pc := 587) dL_acts_587 ?_
    refine z_istore14 (pc := 588) dL_acts_588 ?_
    refine iL_actF2 (I0 := I0) (ck := 2) (sk := 12) hFg hFq hV4 hg4 hq4 (mv := z_mvs I0 g) (kn := z_kn N0 g) (by rw [z_upd_n _ _ (show (4 : Nat) ≠ 1 by decide), z_upd_n _ _ (show (4 : Nat) ≠ 2 by decide)]; exact f4) hmv hk6 hfh (fun i hi al => E6 (i + 1) _ (by omega) (by omega) (by omega) rfl al) hnn (fun x14 x15 => ?_) (z_kn N0 g) 0 rfl (Nat.zero_le _) _ _ _ (by omega) (by omega)
    obtain ⟨fs4, hk4⟩ := hV4.k0
    refine z_iload (pc := 672) dL_acts_672 rfl ?_
    refine z_if_eq (pc := 674) (tgt := 691) dL_acts_674 (by decide) (fun hn => absurd hn (by decide)) (fun _ => ?_)
    refine z_aload_n (pc := 677) dL_acts_677 rfl (by first | rfl | exact z_isr_rf _) ?_
    refine z_callVp (pc := 678) (vX_games hV4) dL_acts_678 cwL_149 okX5_games rfl (hk4) rfl rfl (by omega) rfl (Nat.le_of_ble_eq_true rfl) ?_
    rw [show z_edo N none = g + 1 from (show N 1 0 = g + 1 by rw [e1, hg1])]
    refine z_aload_n (pc := 681) dL_acts_681 rfl (by first | rfl | exact z_isr_rf _) ?_
    refine z_iconst_1 (pc := 682) dL_acts_682 ?_
    refine z_iald (pc := 683) dL_acts_683 ((hV4.at hFg).trans hg4) (z_v1) ?_
    rw [z_c1, z_upd_s]
    refine z_icmp_ne (pc := 684) (tgt := 691) dL_acts_684 (by decide) (fun hn => absurd (rfl) hn) (fun _ => ?_)
    refine z_iconst_1 (pc := 687) dL_acts_687 ?_
    refine z_goto (pc := 688) (tgt := 692) dL_acts_688 (by decide) ?_
    refine z_zret (pc := 692) dL_acts_692 rfl (Or.inr rfl ) ( ⟨rfl, _, _, _, _, ws4, fp, _, _, hV4.sub (fun a ha => (hF1 a).2 (Or.inl ha)), hp4, a4, hg4, hLI.fin hE hg1 h3 h4 h34⟩)
theorem iL_actF (hF : F ap ∧ F aw ∧ F ag) (hne : ap ≠ aw ∧ ap ≠ ag ∧ aw ≠ ag) {fp fw fg : Nat → Int32} {g : Nat} (hV : z_V G F a0 ws I N (some g) B w) (hwp : ws ap = some (.inl (G.2.1 0, 16, .inl fp))) (hww : ws aw = some (.inl (G.2.1 0, 8, .inl fw))) (hwg : ws ag = some (.inl (G.2.1 0, 7, .inl fg))) (hLI : z_LI I N (some g) fp fw fg) {y : Int32} {x1 x4 x6 x7 x8 x9 x10 x11 x12 x13 x14 x15 : Option Value} : z_E G zL_acts 10 (z_aq G F a0 ap aw ag) 337 [some (.ref a0), x1, some (.ref aw), some (.ref ag), x4, some (.int y), x6, x7, x8, x9, x10, x11, x12, x13, x14, x15] [] w 250 1500 := by
  have hn := hV.n
  have hLI2 := hLI
  obtain ⟨-, -, h1, g0, g1, g2, g3⟩ := hLI2
  obtain ⟨f3, f4, f5, f6⟩ := g3 g rfl
  obtain ⟨hg1, h12, h3, h4, h34, -, hm8⟩ := hV.g rfl
  have hFg := hF.2.2
  have hg := (hV.at hFg).trans hwg
  obtain ⟨fs0, hk0⟩ := hV.k0
  have hk6 : z_kn N g ≤ 6 := by unfold z_kn; split <;> omega
  have hk5 : z_kn N g ≤ N 5 g := by unfold z_kn; split <;> omega
  have hmv : ∀ i, i < z_kn N g → z_mvs I g i < 4 := fun i hi => by
    obtain ⟨j, hj, ej⟩ := hm8 i (by omega)
    unfold z_mvs
    rw [ej, nI_clamp (by omega)]
    exact hj
  have hnn : ∀ i, i < z_kn N g → ∃ c, I 11 (i + 1) (z_px (z_mvs I g) (i + 1)) = nI c ∧ c ≤ 60 := fun i hi => by
    obtain ⟨c, s, t, a1, -, -, a2, -⟩ := hV.l (n := i + 1) (l := z_px (z_mvs I g) (i + 1)) (by omega) (by omega) (z_px_lt hmv (i + 1) (by omega))
    exact ⟨c, a1, a2⟩
  have n3 : ¬ z_rg 3 3 := z_rg_ge (by decide) (by decide)
  have r3 : z_rg (nI (N 3 g)) (N 0 0) := ⟨_, h3, rfl⟩
  have r4 : z_rg (nI (N 4 g)) (N 0 0) := ⟨_, h4, rfl⟩
  have c3 := nI_clamp (show N 3 g < 2 ^ 31 by omega)
  have c4 := nI_clamp (show N 4 g < 2 ^ 31 by omega)
  refine z_iload (pc := 337) dL_acts_337 rfl ?_
  refine z_iconst_3 (pc := 339) dL_acts_339 ?_
  refine z_callS (pc := 340) (mL_low y (n := 3) (by omega) (by omega)) dL_acts_340 cwL_127 okL_low rfl (by omega) rfl (Nat.le_of_ble_eq_true rfl) (by omega) (by omega) (fun _ _ h => h.elim) (fun v wN hN => ?_)
  obtain ⟨rfl, rr, hrr, rfl⟩ := hN
  have go : z_E G zL_acts 10 (z_aq G F a0 ap aw ag) 361 [some (.ref a0), x1, some (.ref aw), some (.ref ag), x4, some (.int y), x6, some (.int (nI rr)), x8, x9, x10, x11, x12, x13, x14, x15] [.int (nI (z_kn N g))] wN 250 1500 := by
    refine z_istore8 (pc := 361) dL_acts_361 ?_
    refine z_aload_n (pc := 363) dL_acts_363 rfl (by first | rfl | exact z_isr_rf _) ?_
    refine z_aload_n (pc := 364) dL_acts_364 rfl (by first | rfl | exact z_isr_rf _) ?_
    refine z_iconst_5 (pc := 365) dL_acts_365 ?_
    refine z_iald (pc := 366) dL_acts_366 (hg) (z_v5) ?_
    rw [z_c5, f5]
    refine z_callSXp (pc := 367) (wL_score hV (nI (N 3 g))) dL_acts_367 cwL_101 okL_score rfl (by omega) rfl (Nat.le_of_ble_eq_true rfl) (by omega) (by omega) ?_
    rw [z_if_t r3, c3]
    refine z_istore9 (pc := 370) dL_acts_370 ?_
    refine z_aload_n (pc := 372) dL_acts_372 rfl (by first | rfl | exact z_isr_rf _) ?_
    refine z_aload_n (pc := 373) dL_acts_373 rfl (by first | rfl | exact z_isr_rf _) ?_
    refine z_bipush_6 (pc := 374) dL_acts_374 ?_
    refine z_iald (pc := 376) dL_acts_376 (hg) (z_v6) ?_
    rw [z_c6, f6]
    refine z_callSXp (pc := 377) (wL_score hV (nI (N 4 g))) dL_acts_377 cwL_101 okL_score rfl (by omega) rfl (Nat.le_of_ble_eq_true rfl) (by omega) (by omega) ?_
    rw [z_if_t r4, c4]
    refine z_istore10 (pc := 380) dL_acts_380 ?_
    refine z_aload_n (pc := 382) dL_acts_382 rfl (by first | rfl | exact z_isr_rf _) ?_
    refine z_callVp (pc := 383) (vX_puzzles hV) dL_acts_383 cwL_105 okX5_puzzles rfl (hk0) rfl rfl (by omega) rfl (Nat.le_of_ble_eq_true rfl) ?_
    refine z_istore11 (pc := 386) dL_acts_386 ?_
    refine z_bipush_6 (pc := 388) dL_acts_388 ?_
    refine z_newaI (m0 := 6) (pc := 390) dL_acts_390 ac_int (by decide) (by decide) (Nat.le_of_ble_eq_true rfl) (by omega) (by omega) (fun qh hqh => ?_)
    refine z_astore12 (pc := 392) dL_acts_392 (by first | rfl | exact z_isr_rf _) ?_
    refine z_iconst_0 (pc := 394) dL_acts_394 ?_
    refine z_istore13 (pc := 395) dL_acts_395 ?_
    refine z_genN hV hqh (fun ws1 w1 hV1 e1 o1 ne1 => ?_)
    have hqF : ¬ F qh := fun z => ne1 qh z rfl
    refine iL_actF1 (F := fun b => F b ∨ b = qh) (ck := 230) (sk := 1300) (Or.inl hFg) (Or.inr rfl) (ne1 ag hFg) ((o1 ag hFg).trans hwg) f4 hmv hk6 (fun ws2 w2 fh x13 x14 hV2 o2 e2 hfh => ?_) (z_kn N g) 0 rfl (Nat.zero_le _) ws1 w1 _ _ _ _ hV1 (fun b _ => rfl) e1 (fun j hj => absurd hj (Nat.not_lt_zero _)) (by omega) (by omega)
    refine z_aload_n (pc := 459) dL_acts_459 rfl (by first | rfl | exact z_isr_rf _) ?_
    refine z_iconst_3 (pc := 460) dL_acts_460 ?_
    refine z_callSX (pc := 461) (wL_end hV2 3) dL_acts_461 cwL_143 okL_end rfl (by omega) rfl (Nat.le_of_ble_eq_true rfl) (by omega) (by omega) (fun v wN hN => ?_)
    rcases hN with ⟨-, -, hr, -⟩ | ⟨rfl, ⟨-, rfl⟩ | ⟨hr, -⟩⟩
    · exact absurd hr n3
    · refine z_ldc (pc := 464) dL_acts_464 cc18 ?_
      refine z_icmp_ne (pc := 466) (tgt := 554) dL_acts_466 (by decide) (fun hn => absurd (rfl) hn) (fun _ => ?_)
      refine z_aload_n (pc := 469) dL_acts_469 rfl (by first | rfl | exact z_isr_rf _) ?_
      refine z_iload (pc := 470) dL_acts_470 rfl ?_
      refine z_callSX (pc := 472) (wL_end hV2 (nI rr)) dL_acts_472 cwL_143 okL_end rfl (by omega) rfl (Nat.le_of_ble_eq_true rfl) (by omega) (by omega) (fun v wN hN => ?_)
      rcases hN with ⟨g', eg, hxr, rfl, hE, hV3⟩ | ⟨rfl, ⟨hr, -⟩ | ⟨-, hr, -⟩⟩
      · have eg := Option.some.inj eg
        subst eg
        exact z_E.mono (by omega) (by omega) (iL_actF3 (q := qh) hF hne hqF (fun a => Iff.rfl) hV3 ((o2 ap (ne1 ap hF.1)).trans ((o1 ap hF.1).trans hwp)) ((o2 aw (ne1 aw hF.2.1)).trans ((o1 aw hF.2.1).trans hww)) ((o2 ag (ne1 ag hFg)).trans ((o1 ag hFg).trans hwg)) e2 hLI hE hg1 h12 h3 h4 h34 hrr hmv hfh hnn)
      · exact absurd ⟨rr, hrr, rfl⟩ hr
      · exact absurd ⟨g, rfl⟩ hr
    · exact absurd hr n3
  refine z_istore7 (pc := 343) dL_acts_343 ?_
  refine z_aload_n (pc := 345) dL_acts_345 rfl (by first | rfl | exact z_isr_rf _) ?_
  refine z_iconst_3 (pc := 346) dL_acts_346 ?_
  refine z_iald (pc := 347) dL_acts_347 (hg) (z_v3) ?_
  refine z_bipush_6 (pc := 348) dL_acts_348 ?_
  rw [z_c3, f3]
  by_cases h6 : N 5 g < 6
  · have e : z_kn N g = N 5 g := by unfold z_kn; rw [if_pos h6]
    refine z_icmp_ge (pc := 350) (tgt := 359) dL_acts_350 (by decide) (fun hn => absurd hn (fun z => absurd ((nI_leI (a := 6) (by omega) (by omega)).1 z) (by omega))) (fun _ => ?_)
    refine z_aload_n (pc := 353) dL_acts_353 rfl (by first | rfl | exact z_isr_rf _) ?_
    refine z_iconst_3 (pc := 354) dL_acts_354 ?_
    refine z_iald (pc := 355) dL_acts_355 (hg) (z_v3) ?_
    refine z_goto (pc := 356) (tgt := 361) dL_acts_356 (by decide) ?_
    rw [z_c3, f3]
    rw [e] at go
    exact go
  · have e : z_kn N g = 6 := by unfold z_kn; rw [if_neg h6]
    refine z_icmp_ge (pc := 350) (tgt := 359) dL_acts_350 (by decide) (fun _ => ?_) (fun hn => absurd ((nI_leI (a := 6) (by omega) (by omega)).2 (by omega)) hn)
    refine z_bipush_6 (pc := 359) dL_acts_359 ?_
    rw [e] at go
    exact go
end LJ

