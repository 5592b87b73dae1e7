/-! the law's loop, and its beginning -/
theorem z_lt4 {L i : Nat} (hL : L ≤ 2048) (hi : i ≤ 2048) : nI L - 4 < nI i ↔ L < i + 4 := by
  rw [Int32.lt_iff_toInt_lt, Int32.toInt_sub, nI_toInt (by omega), nI_toInt (by omega), show (4 : Int32).toInt = 4 from rfl, Int.bmod_eq_of_le (by omega) (by omega)]
  omega
section LOOP
variable {G : z_G} {A6 : z_TA} {qo qd q0 : Nat}
theorem iL_law (hL : G.2.2.2.2.2.1 ≤ 2048) : ∀ (m i : Nat), G.2.2.2.2.2.1 ≤ i + 4 * m + 3 → i ≤ G.2.2.2.2.2.1 → ∀ (A : z_TA) (I : z_TI) (N : z_TN) (O : z_TO) (B : z_TB) (M : z_TM) (vo : Nat → Int64) (vd : Nat → UInt64) (w : z_W) (x6 x7 : Option Value) (k n : Nat), A 0 0 0 = q0 → z_LW G A I N O B A6 M qo qd vo vd w → z_J I N O B M → 24 * m ≤ k → 84 * m ≤ n → z_E G zL_law 9 (z_ZL G.2.2.1) 28 [some (.ref G.2.2.2.2.1), some (.ref q0), some (.ref (A6 22 0 0)), some (.ref qo), some (.ref qd), some (.int (nI i)), x6, x7] [] w k n := by
  intro m
  induction m with
  | zero =>
    intro i h1 h2 A I N O B M vo vd w x6 x7 k n hq0 h hJ hk hn
    refine z_iload (pc := 28) dL_law_28 rfl ?_
    refine z_aload_n (pc := 30) dL_law_30 rfl (by first | rfl | exact z_isr_rf _) ?_
    refine z_slen (pc := 31) dL_law_31 ?_
    refine z_iconst_4 (pc := 32) dL_law_32 ?_
    refine z_isub (pc := 33) dL_law_33 ?_
    refine z_icmp_gt (pc := 34) (tgt := 1475) dL_law_34 (by decide) (fun _ => ?_) (fun hn => absurd ((z_lt4 hL (by omega)).2 (by omega)) hn)
    refine z_iconst_1 (pc := 1475) dL_law_1475 ?_
    exact z_lret dL_law_1476
  | succ m ih =>
    intro i h1 h2 A I N O B M vo vd w x6 x7 k n hq0 h hJ hk hn
    refine z_iload (pc := 28) dL_law_28 rfl ?_
    refine z_aload_n (pc := 30) dL_law_30 rfl (by first | rfl | exact z_isr_rf _) ?_
    refine z_slen (pc := 31) dL_law_31 ?_
    refine z_iconst_4 (pc := 32) dL_law_32 ?_
    refine z_isub (pc := 33) dL_law_33 ?_
    by_cases hx : G.2.2.2.2.2.1 < i + 4
    · refine z_icmp_gt (pc := 34) (tgt := 1475) dL_law_34 (by decide) (fun _ => ?_) (fun hn => absurd ((z_lt4 hL (by omega)).2 hx) hn)
      refine z_iconst_1 (pc := 1475) dL_law_1475 ?_
      exact z_lret dL_law_1476
    have hi4 : i + 4 ≤ G.2.2.2.2.2.1 := by omega
    have v0 : vp_in (nI i) G.2.2.2.2.2.1 := vp_in_nI (by omega) (by omega)
    refine z_icmp_gt (pc := 34) (tgt := 1475) dL_law_34 (by decide) (fun hn => absurd hn (fun z => hx ((z_lt4 hL (by omega)).1 z))) (fun _ => ?_)
    refine z_aload_n (pc := 37) dL_law_37 rfl (by first | rfl | exact z_isr_rf _) ?_
    refine z_iload (pc := 38) dL_law_38 rfl ?_
    refine z_sld (pc := 40) dL_law_40 (v0) ?_
    refine z_bipush_31 (pc := 41) dL_law_41 ?_
    refine z_iand (pc := 43) dL_law_43 ?_
    have nx : z_nxt G A A6 qo qd i (z_ZL G.2.2.1) (k - 24) (n - 84) := by
      intro A' I' N' O' B' M' vo' vd' w' y6 y7 hA hW hJ'
      refine z_iinc5f (pc := 1469) dL_law_1469 ?_
      refine z_goto (pc := 1472) (tgt := 28) dL_law_1472 (by decide) ?_
      rw [show nI i + 4 = nI (i + 4) by rw [show (4 : Int32) = nI 4 from rfl, nI_add], hq0]
      exact ih (i + 4) (by omega) hi4 A' I' N' O' B' M' vo' vd' w' y6 y7 _ _ (hA.trans hq0) hW hJ' (by omega) (by omega)
    obtain ⟨j, hj, ej⟩ := pk_andE (G.2.2.2.2.2.2 (nI i).toNatClampNeg) (m := 31) 5 (by decide)
    have hj : j < 32 := hj
    rw [ej, ← hq0]
    rcases (show j < 23 ∨ 23 ≤ j by omega) with hj2 | hj2
    · rcases (show j = 0 ∨ j = 1 ∨ j = 2 ∨ j = 3 ∨ j = 4 ∨ j = 5 ∨ j = 6 ∨ j = 7 ∨ j = 8 ∨ j = 9 ∨ j = 10 ∨ j = 11 ∨ j = 12 ∨ j = 13 ∨ j = 14 ∨ j = 15 ∨ j = 16 ∨ j = 17 ∨ j = 18 ∨ j = 19 ∨ j = 20 ∨ j = 21 ∨ j = 22 by omega) with rfl | rfl | rfl | rfl | rfl | rfl | rfl | rfl | rfl | rfl | rfl | rfl | rfl | rfl | rfl | rfl | rfl | rfl | rfl | rfl | rfl | rfl | rfl
      · refine z_tableIn (pc := 44) (off := 108) (tgt := 152) dL_law_44 (by decide) (by decide) (by decide) (by decide) ?_
        exact kL_after h hJ hL hi4 (by omega) (by omega) nx _ _
      · refine z_tableIn (pc := 44) (off := 176) (tgt := 220) dL_law_44 (by decide) (by decide) (by decide) (by decide) ?_
        exact kL_worth h hJ hL hi4 (by omega) (by omega) nx _ _
      · refine z_tableIn (pc := 44) (off := 232) (tgt := 276) dL_law_44 (by decide) (by decide) (by decide) (by decide) ?_
        exact kL_best h hJ hL hi4 (by omega) (by omega) nx _ _
      · refine z_tableIn (pc := 44) (off := 288) (tgt := 332) dL_law_44 (by decide) (by decide) (by decide) (by decide) ?_
        exact kL_enter h hJ hL hi4 (by omega) (by omega) nx _ _
      · refine z_tableIn (pc := 44) (off := 332) (tgt := 376) dL_law_44 (by decide) (by decide) (by decide) (by decide) ?_
        exact kL_begin h hJ hL hi4 (by omega) (by omega) nx _ _
      · refine z_tableIn (pc := 44) (off := 400) (tgt := 444) dL_law_44 (by decide) (by decide) (by decide) (by decide) ?_
        exact kL_move h hJ hL hi4 (by omega) (by omega) nx _ _
      · refine z_tableIn (pc := 44) (off := 463) (tgt := 507) dL_law_44 (by decide) (by decide) (by decide) (by decide) ?_
        exact kL_end h hJ hL hi4 (by omega) (by omega) nx _ _
      · refine z_tableIn (pc := 44) (off := 519) (tgt := 563) dL_law_44 (by decide) (by decide) (by decide) (by decide) ?_
        exact kL_position h hJ hL hi4 (by omega) (by omega) nx _ _
      · refine z_tableIn (pc := 44) (off := 532) (tgt := 576) dL_law_44 (by decide) (by decide) (by decide) (by decide) ?_
        exact kL_games h hJ hL hi4 (by omega) (by omega) nx _ _
      · refine z_tableIn (pc := 44) (off := 545) (tgt := 589) dL_law_44 (by decide) (by decide) (by decide) (by decide) ?_
        exact kL_score h hJ hL hi4 (by omega) (by omega) nx _ _
      · refine z_tableIn (pc := 44) (off := 601) (tgt := 645) dL_law_44 (by decide) (by decide) (by decide) (by decide) ?_
        exact kL_puzzles h hJ hL hi4 (by omega) (by omega) nx _ _
      · refine z_tableIn (pc := 44) (off := 614) (tgt := 658) dL_law_44 (by decide) (by decide) (by decide) (by decide) ?_
        exact kL_puzzle h hJ hL hi4 (by omega) (by omega) nx _ _
      · refine z_tableIn (pc := 44) (off := 670) (tgt := 714) dL_law_44 (by decide) (by decide) (by decide) (by decide) ?_
        exact kL_source h hJ hL hi4 (by omega) (by omega) nx _ _
      · refine z_tableIn (pc := 44) (off := 726) (tgt := 770) dL_law_44 (by decide) (by decide) (by decide) (by decide) ?_
        exact kL_solve h hJ hL hi4 (by omega) (by omega) nx _ _
      · refine z_tableIn (pc := 44) (off := 813) (tgt := 857) dL_law_44 (by decide) (by decide) (by decide) (by decide) ?_
        exact kL_offered h hJ hL hi4 (by omega) (by omega) nx _ _
      · refine z_tableIn (pc := 44) (off := 869) (tgt := 913) dL_law_44 (by decide) (by decide) (by decide) (by decide) ?_
        exact kL_rating h hJ hL hi4 (by omega) (by omega) nx _ _
      · refine z_tableIn (pc := 44) (off := 937) (tgt := 981) dL_law_44 (by decide) (by decide) (by decide) (by decide) ?_
        exact kL_results h hJ hL hi4 (by omega) (by omega) nx _ _
      · refine z_tableIn (pc := 44) (off := 1005) (tgt := 1049) dL_law_44 (by decide) (by decide) (by decide) (by decide) ?_
        exact kL_points h hJ hL hi4 (by omega) (by omega) nx _ _
      · refine z_tableIn (pc := 44) (off := 1073) (tgt := 1117) dL_law_44 (by decide) (by decide) (by decide) (by decide) ?_
        exact kL_isDropped h hJ hL hi4 (by omega) (by omega) nx _ _
      · refine z_tableIn (pc := 44) (off := 1148) (tgt := 1192) dL_law_44 (by decide) (by decide) (by decide) (by decide) ?_
        exact kL_pointsOfGames h hJ hL hi4 (by omega) (by omega) nx _ _
      · refine z_tableIn (pc := 44) (off := 1216) (tgt := 1260) dL_law_44 (by decide) (by decide) (by decide) (by decide) ?_
        exact kL_mean h hJ hL hi4 (by omega) (by omega) nx _ _
      · refine z_tableIn (pc := 44) (off := 1306) (tgt := 1350) dL_law_44 (by decide) (by decide) (by decide) (by decide) ?_
        exact kL_opponent h hJ hL hi4 (by omega) (by omega) nx _ _
      · refine z_tableIn (pc := 44) (off := 1362) (tgt := 1406) dL_law_44 (by decide) (by decide) (by decide) (by decide) ?_
        exact kL_hasWhite h hJ hL hi4 (by omega) (by omega) nx _ _
    · refine z_tableOut (pc := 44) (tgt := 1469) dL_law_44 (Or.inr ?_) (by decide) ?_
      · rw [nI_toInt (by omega)]
        omega
      · exact z_E.le (by omega) (by omega) (nx A I N O B M vo vd w _ _ rfl h hJ)
end LOOP
/-! the state at first -/
theorem z_S0 : z_S (fun _ _ => 0) (fun _ _ => none) z_B0 := by
  refine ⟨rfl, rfl, rfl, by decide, by decide, by decide, fun g hg => absurd hg (Nat.not_lt_zero _), fun g hg => (by cases hg), fun p q hp => absurd hp (Nat.not_lt_zero _), rfl, fun i j h => ?_, fun i j h => ?_⟩
  · have h := of_decide_eq_true h
    obtain ⟨rfl, rfl⟩ := h
    exact ⟨by decide, by decide⟩
  · have h := of_decide_eq_true h
    exact absurd h.1 (Nat.succ_ne_zero _)
theorem z_J0 : z_J (fun _ _ _ => 0) (fun _ _ => 0) (fun _ _ => none) z_B0 (fun _ _ => 0) := by
  refine ⟨z_S0, fun _ _ _ => ⟨rfl, rfl, rfl⟩, ⟨rfl, fun p hp => absurd hp (Nat.not_lt_zero _), fun p _ => ⟨rfl, rfl, fun _ _ => rfl⟩⟩, ⟨rfl, rfl, fun g hg => (by cases hg), fun g hg => absurd hg (Nat.not_lt_zero _), fun g _ => ⟨rfl, rfl⟩⟩, ⟨rfl, fun z hz => absurd hz (Nat.not_lt_zero _)⟩, fun n l _ _ _ => ⟨rfl, rfl, rfl, Or.inl rfl, 0, 0, rfl, rfl, Nat.zero_le _, Nat.zero_le _⟩, fun n l _ _ _ _ hb => ?_, fun p q hp => absurd hp (Nat.not_lt_zero _)⟩
  exact absurd hb.1 (show ¬ (3 : Int32) ≤ 0 by decide)
section INI
variable {G : z_G} {A A6 : z_TA} {I : z_TI} {N : z_TN} {O : z_TO} {B : z_TB} {M : z_TM} {w2 w4 : z_W} {q6 qo qd : Nat} {e6 : va_E}
theorem z_LW_mk (hC : z_C G (fun _ => False) A I N O B w2) (h6 : w2 q6 = none) (hM : z_Mo G (fun _ => False) A6 M w4) (hkp : z_kp q6 (z_up w2 q6 e6) w4) (hA6 : ∀ k, k ∈ z_mtg → A6 k 0 0 = q6 ∨ (z_up w2 q6 e6) (A6 k 0 0) = none) {vo : Nat → Int64} {vd : Nat → UInt64} (ho : w4 qo = none) (hd : (z_up w4 qo (.inl (G.2.1 2, 1, .inr (.inl vo)))) qd = none) : z_LW G A I N O B A6 M qo qd vo vd (z_up (z_up w4 qo (.inl (G.2.1 2, 1, .inr (.inl vo)))) qd (.inl (G.2.1 3, 1, .inr (.inr (.inr (.inl vd)))))) := by
  have qdo : qd ≠ qo := by
    intro e
    rw [e, z_upS] at hd
    cases hd
  have hd4 : w4 qd = none := by
    rw [z_upN _ _ qdo] at hd
    exact hd
  have c1 : ∀ k i j, z_lv N B k i j → w2 (A k i j) = some (z_ct G A I N O B k i j) := fun k i j hl => z_tw.at hC hl
  have n6 : ∀ k i j, z_lv N B k i j → A k i j ≠ q6 := fun k i j hl e => by
    have := c1 k i j hl
    rw [e, h6] at this
    cases this
  have c4 : ∀ k i j, z_lv N B k i j → w4 (A k i j) = some (z_ct G A I N O B k i j) := fun k i j hl => by
    have h1 : z_up w2 q6 e6 (A k i j) = some (z_ct G A I N O B k i j) := (z_upN _ _ (n6 k i j hl)).trans (c1 k i j hl)
    exact (hkp _ (n6 k i j hl) (by rw [h1]; exact fun z => nomatch z)).trans h1
  have no : ∀ k i j, z_lv N B k i j → A k i j ≠ qo := fun k i j hl e => by
    have := c4 k i j hl
    rw [e, ho] at this
    cases this
  have nd : ∀ k i j, z_lv N B k i j → A k i j ≠ qd := fun k i j hl e => by
    have := c4 k i j hl
    rw [e, hd4] at this
    cases this
  have m4 : ∀ k, k ∈ z_mtg → w4 (A6 k 0 0) = some (z_mct G A6 M k 0 0) := fun k hk => z_tw.at hM (k := k) (i := 0) (j := 0) ⟨hk, rfl, rfl⟩
  have mo : ∀ k, k ∈ z_mtg → A6 k 0 0 ≠ qo := fun k hk e => by
    have := m4 k hk
    rw [e, ho] at this
    cases this
  have md : ∀ k, k ∈ z_mtg → A6 k 0 0 ≠ qd := fun k hk e => by
    have := m4 k hk
    rw [e, hd4] at this
    cases this
  have ap : ∀ k i j k', z_lv N B k i j → k' ∈ z_mtg → A k i j ≠ A6 k' 0 0 := fun k i j k' hl hk' e => by
    rcases hA6 k' hk' with z | z
    · exact n6 k i j hl (e.trans z)
    · rw [← e, z_upN _ _ (n6 k i j hl), c1 k i j hl] at z
      cases z
  refine ⟨⟨fun k i j hl => ⟨(z_upN _ _ (nd k i j hl)).trans ((z_upN _ _ (no k i j hl)).trans (c4 k i j hl)), ?_⟩, hC.2.1, fun a ha => ?_⟩, ⟨fun k i j hl => ?_, hM.2.1, fun a ha => ?_⟩, (z_upN _ _ (Ne.symm qdo)).trans (z_upS _ _ _), z_upS _ _ _, Ne.symm qdo⟩
  · rintro (⟨k', hk', e⟩ | e | e)
    · exact ap k i j k' hl hk' e
    · exact no k i j hl e
    · exact nd k i j hl e
  · rcases ha with ⟨k', hk', e⟩ | e | e
    · rw [e, z_upN _ _ (md k' hk'), z_upN _ _ (mo k' hk'), m4 k' hk']; exact fun z => nomatch z
    · rw [e, z_upN _ _ (Ne.symm qdo), z_upS]; exact fun z => nomatch z
    · rw [e, z_upS]; exact fun z => nomatch z
  · obtain ⟨hk, rfl, rfl⟩ := hl
    refine ⟨(z_upN _ _ (md k hk)).trans ((z_upN _ _ (mo k hk)).trans (m4 k hk)), ?_⟩
    rintro (⟨k', i', j', hl', e⟩ | e | e)
    · exact ap k' i' j' k hl' hk e.symm
    · exact mo k hk e
    · exact md k hk e
  · rcases ha with ⟨k', i', j', hl', e⟩ | e | e
    · rw [e, z_upN _ _ (nd k' i' j' hl'), z_upN _ _ (no k' i' j' hl'), c4 k' i' j' hl']; exact fun z => nomatch z
    · rw [e, z_upN _ _ (Ne.symm qdo), z_upS]; exact fun z => nomatch z
    · rw [e, z_upS]; exact fun z => nomatch z
theorem mL_start (hL : G.2.2.2.2.2.1 ≤ 2048) : z_E G zL_law 9 (z_ZL G.2.2.1) 0 [some (.ref G.2.2.2.2.1), none, none, none, none, none, none, none] [] (fun _ => none) 601024 7293034 := by
  refine nwL_8 (pc := 0) rfl dL_law_0 (by omega) (by omega) (fun q hq => ?_)
  refine z_dup (pc := 3) dL_law_3 (by first | rfl | exact z_isr_cat (z_isr_rf _)) ?_
  refine z_callI (pc := 4) (mX5_init (z_upS _ _ _)) dL_law_4 cwL_82 okX5_init rfl (by omega) rfl (Nat.le_of_ble_eq_true rfl) (by omega) (by omega) (fun _ _ h => h.elim) (fun v wN hN => ?_)
  obtain ⟨rfl, A, hA0, hC, hkp, hAn⟩ := hN
  refine z_astore1 (pc := 7) dL_law_7 (by first | rfl | exact z_isr_rf _) ?_
  refine nwL_83 (pc := 8) rfl dL_law_8 (by omega) (by omega) (fun q6 hq6 => ?_)
  refine z_dup (pc := 11) dL_law_11 (by first | rfl | exact z_isr_cat (z_isr_rf _)) ?_
  refine z_callI (pc := 12) (mX6_init (z_upS _ _ _)) dL_law_12 cwL_85 okX6_init rfl (by omega) rfl (Nat.le_of_ble_eq_true rfl) (by omega) (by omega) (fun _ _ h => h.elim) (fun v wN hN => ?_)
  obtain ⟨rfl, A6, hA6, hM, hkp6, hAn6⟩ := hN
  refine z_astore2 (pc := 15) dL_law_15 (by first | rfl | exact z_isr_rf _) ?_
  refine z_iconst_1 (pc := 16) dL_law_16 ?_
  refine z_newaJ (m0 := 1) (pc := 17) dL_law_17 ac_long (by decide) (by decide) (Nat.le_of_ble_eq_true rfl) (by omega) (by omega) (fun qo hqo => ?_)
  refine z_astore3 (pc := 19) dL_law_19 (by first | rfl | exact z_isr_rf _) ?_
  refine z_iconst_1 (pc := 20) dL_law_20 ?_
  refine z_newaD (m0 := 1) (pc := 21) dL_law_21 ac_double (by decide) (by decide) (Nat.le_of_ble_eq_true rfl) (by omega) (by omega) (fun qd hqd => ?_)
  refine z_astore4 (pc := 23) dL_law_23 (by first | rfl | exact z_isr_rf _) ?_
  refine z_iconst_0 (pc := 25) dL_law_25 ?_
  refine z_istore5 (pc := 26) dL_law_26 ?_
  rw [← hA6]
  exact iL_law hL (G.2.2.2.2.2.1 / 4) 0 (by omega) (Nat.zero_le _) A _ _ _ _ _ _ _ _ _ _ _ _ hA0 (z_LW_mk hC hq6 hM hkp6 hAn6 hqo hqd) z_J0 (by omega) (by omega)
end INI

