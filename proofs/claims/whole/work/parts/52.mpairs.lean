/-! the reference's calls that pair, beside the class's partners -/
theorem z_M.mono {G : z_G} {Y : z_Mi} {d : Nat} {av : List Value} {w : z_W} {k n : Nat} {QR QR' : Option Value → z_W → Prop} {QX QX' : String → z_W → Prop} (h : z_M G Y d av w k n QR QX) (h1 : ∀ v w', QR v w' → QR' v w') (h2 : ∀ E w', QX E w' → QX' E w') : z_M G Y d av w k n QR' QX' := by
  intro p e ha hc hk s m args below hf happ hP hK
  obtain ⟨n', o, a, b, c, q⟩ := h p e ha hc hk s m args below hf happ hP hK
  refine ⟨n', o, a, b, c, ?_⟩
  rcases q with ⟨⟨⟨v, w', rfl, hq, hr⟩, hF⟩, L⟩ | ⟨q, ho, E, ce, L, ⟨⟨w', hx, hr⟩, hF⟩, rest⟩
  · exact Or.inl ⟨⟨⟨v, w', rfl, h1 v w' hq, hr⟩, hF⟩, L⟩
  · exact Or.inr ⟨q, ho, E, ce, L, ⟨⟨w', h2 E w' hx, hr⟩, hF⟩, rest⟩
theorem z_JG.oc {I : z_TI} {N : z_TN} {O O' : z_TO} {M : z_TM} (h : z_JG I N O M) (hO : O' 0 0 = O 0 0) : z_JG I N O' M := h.c (fun _ _ _ => rfl) rfl rfl rfl rfl hO (fun _ _ _ => rfl)
theorem z_pt_0 {I : z_TI} {N : z_TN} {O : z_TO} : z_pt I N O 0 = O 0 := by
  unfold z_pt
  rw [z_pr_f (by decide)]
  rfl
theorem z_S.pt {I : z_TI} {N : z_TN} {O : z_TO} {B : z_TB} (hS : z_S N O B) : z_S N (z_pt I N O) B := by
  obtain ⟨h1, h2, h3, h4, h5, h6, h7, h8, h9, h10, h11, h12⟩ := id hS
  refine ⟨h1, h2, h3, h4, h5, h6, h7, fun g hg => h8 g (by rw [z_pt_0] at hg; exact hg), fun p q hp hq => ?_, h10, h11, h12⟩
  have := z_pt_lt hS hq (by rw [h1]; exact hp)
  rw [h1] at this
  exact this
theorem z_J.pt {I : z_TI} {N : z_TN} {O : z_TO} {B : z_TB} {M : z_TM} (h : z_J I N O B M) : z_J I N (z_pt I N O) B M := by
  have e0 : z_pt I N O 0 0 = O 0 0 := by rw [z_pt_0]
  have ee : z_ed N (z_pt I N O) = z_ed N O := z_ed_c rfl e0
  exact ⟨h.1.pt, h.2.1, h.2.2.1, h.2.2.2.1.oc e0, h.2.2.2.2.1, h.2.2.2.2.2.1.c (fun _ _ _ => rfl) (by rw [ee]; exact Nat.le_refl _) (fun _ _ _ => rfl), h.2.2.2.2.2.2.1, h.2.2.2.2.2.2.2.c rfl rfl rfl rfl ee⟩
section MPR
variable {G : z_G} {F : Nat → Prop} {A : z_TA} {M : z_TM} {w : z_W} {I : z_TI} {N : z_TN} {O : z_TO} {B : z_TB}
theorem mX6_pairsJ (hM : z_Mo G F A M w) (hJ : z_J I N O B M) : z_M G zX6_pairs 2 [.ref (A 22 0 0)] w 0 0 (fun v w' => v = none ∧ z_fr F w w' ∧ ∃ M', z_Mo G F A M' w' ∧ z_J I N (z_pt I N O) B M' ∧ M' 21 0 = M 21 0 ∧ ∀ p, p < N 0 0 → M' 20 p = z_fi (z_pt I N O 1 p)) z_nx := by
  have en := hJ.en
  obtain ⟨od, h1, h2⟩ := hJ.pairs
  have hm := mX6_pairs hM en.2.2 en.1 en.2.1 (n := N 0 0) (od := od) hJ.2.2.1.1 hJ.1.2.2.2.1 h1
  refine z_M.mono hm (fun v w' h => ?_) (fun _ _ h => h)
  obtain ⟨a, b, M', c, d, e⟩ := h
  exact ⟨a, b, M', c, hJ.pt.off (fun f hf => d f (by omega) (by omega)), by rw [d 21 (by decide) (by decide)], fun p hp => by rw [e p hp, h2 p hp]⟩
theorem z_J.set21 (h : z_J I N O B M) (v : Int32) : z_J I N O B (z_sM M 21 0 v) := h.off1 (by decide) 0 v
theorem mX6_opponent (hM : z_Mo G F A M w) (hJ : z_J I N O B M) (x : Int32) : z_M G zX6_opponent 3 [.ref (A 22 0 0), .int x] w 0 0 (fun v w' => z_fr F w w' ∧ ((∃ p, p < N 6 0 ∧ x = nI p ∧ v = some (.int (z_fi (z_pt I N O 1 p))) ∧ ∃ M', z_Mo G F A M' w' ∧ M' 21 0 = 0 ∧ z_J I N (z_pt I N O) B M') ∨ (¬ z_rg x (N 6 0) ∧ v = some (.int 0) ∧ z_Mo G F A (z_sM M 21 0 1) w'))) z_nx := by
  have h8 := hJ.1.2.2.2.1
  have e6 := hJ.1.1
  refine z_M.of (by decide +kernel) rfl (by intro v hv; simp only [List.mem_cons, List.not_mem_nil, or_false] at hv; rcases hv with rfl | rfl <;> first | rfl | exact z_isr_cat (z_isr_rf _)) (Nat.le_of_ble_eq_true rfl) ?_
  show z_E _ zX6_opponent _ _ 0 [some (.ref (A 22 0 0)), some (.int x)] [] _ _ _
  refine z_aload_n (pc := 0) dX6_opponent_0 rfl (by first | rfl | exact z_isr_rf _) ?_
  refine z_aload_n (pc := 1) dX6_opponent_1 rfl (by first | rfl | exact z_isr_rf _) ?_
  refine z_iload_n (pc := 2) dX6_opponent_2 rfl ?_
  refine z_callVp (pc := 3) (mX6_isPlayer hM hJ.2.2.1.1 (by omega) x) dX6_opponent_3 cwX6_102 okX6_isPlayer rfl (hM.k22) rfl rfl (by omega) rfl (Nat.le_of_ble_eq_true rfl) ?_
  refine z_iconst_1 (pc := 6) dX6_opponent_6 ?_
  refine z_iconst_1 (pc := 7) dX6_opponent_7 ?_
  refine z_callV (pc := 8) (mX6_goes hM rfl z_tt z_tt) dX6_opponent_8 cwX6_91 okX6_goes rfl (hM.k22) rfl rfl (by omega) rfl (Nat.le_of_ble_eq_true rfl) (by omega) (by omega) (fun _ _ h => h.elim) (fun v wN hN => ?_)
  obtain ⟨rfl, hM2, hf2⟩ := hN
  rw [z_b_a]
  refine z_if_ne (pc := 11) (tgt := 16) dX6_opponent_11 (by decide) (fun hc => ?_) (fun hc => ?_)
  · have hr := z_b_1 hc
    rw [z_go_0 hr trivial trivial] at hM2
    have hr2 := hr
    obtain ⟨j, hj, rfl⟩ := hr2
    refine z_aload_n (pc := 16) dX6_opponent_16 rfl (by first | rfl | exact z_isr_rf _) ?_
    refine z_callV (pc := 17) (mX6_pairsJ hM2 (hJ.set21 0)) dX6_opponent_17 cwX6_150 okX6_pairs rfl (hM2.k22) rfl rfl (by omega) rfl (Nat.le_of_ble_eq_true rfl) (by omega) (by omega) (fun _ _ h => h.elim) (fun v wN hN => ?_)
    obtain ⟨rfl, hf3, M', hM3, hJ3, h21, h20⟩ := hN
    refine z_aload_n (pc := 20) dX6_opponent_20 rfl (by first | rfl | exact z_isr_rf _) ?_
    refine gfX6_56 (pc := 21) rfl dX6_opponent_21 (hM3.k22) rfl ?_
    refine z_iload_n (pc := 24) dX6_opponent_24 rfl ?_
    refine z_iald (pc := 25) dX6_opponent_25 (hM3.k20) (vp_in_nI (by omega) (by omega)) ?_
    rw [nI_clamp (show j < 2 ^ 31 by omega), h20 j hj]
    refine z_iret (pc := 26) dX6_opponent_26 rfl (⟨hf2.tr hf3, Or.inl ⟨j, by omega, rfl, rfl, M', hM3, h21, hJ3⟩⟩)
  · refine z_iconst_0 (pc := 14) dX6_opponent_14 ?_
    rw [z_go_1 (z_b_0 hc)] at hM2
    refine z_iret (pc := 15) dX6_opponent_15 rfl (⟨hf2, Or.inr ⟨by rw [e6]; exact z_b_0 hc, rfl, hM2⟩⟩)
theorem mX6_hasWhite (hM : z_Mo G F A M w) (hJ : z_J I N O B M) (x : Int32) : z_M G zX6_hasWhite 3 [.ref (A 22 0 0), .int x] w 0 0 (fun v w' => z_fr F w w' ∧ ∃ M', z_Mo G F A M' w' ∧ z_J I N (z_pt I N O) B M' ∧ ((∃ p q, p < N 6 0 ∧ x = nI p ∧ z_pt I N O 1 p = some q ∧ v = some (.int (z_b (z_hw I p q))) ∧ M' 21 0 = 0) ∨ (∃ p, p < N 6 0 ∧ x = nI p ∧ z_pt I N O 1 p = none ∧ v = some (.int 0) ∧ M' 21 0 = 2) ∨ (¬ z_rg x (N 6 0) ∧ v = some (.int 0) ∧ M' 21 0 = 1))) z_nx := by
  have h8 := hJ.1.2.2.2.1
  have e6 := hJ.1.1
  refine z_M.of (by decide +kernel) rfl (by intro v hv; simp only [List.mem_cons, List.not_mem_nil, or_false] at hv; rcases hv with rfl | rfl <;> first | rfl | exact z_isr_cat (z_isr_rf _)) (Nat.le_of_ble_eq_true rfl) ?_
  show z_E _ zX6_hasWhite _ _ 0 [some (.ref (A 22 0 0)), some (.int x), none, none] [] _ _ _
  refine z_aload_n (pc := 0) dX6_hasWhite_0 rfl (by first | rfl | exact z_isr_rf _) ?_
  refine z_iload_n (pc := 1) dX6_hasWhite_1 rfl ?_
  refine z_callVp (pc := 2) (mX6_isPlayer hM hJ.2.2.1.1 (by omega) x) dX6_hasWhite_2 cwX6_102 okX6_isPlayer rfl (hM.k22) rfl rfl (by omega) rfl (Nat.le_of_ble_eq_true rfl) ?_
  refine z_istore2 (pc := 5) dX6_hasWhite_5 ?_
  refine z_aload_n (pc := 6) dX6_hasWhite_6 rfl (by first | rfl | exact z_isr_rf _) ?_
  refine z_callV (pc := 7) (mX6_pairsJ hM hJ) dX6_hasWhite_7 cwX6_150 okX6_pairs rfl (hM.k22) rfl rfl (by omega) rfl (Nat.le_of_ble_eq_true rfl) (by omega) (by omega) (fun _ _ h => h.elim) (fun v wN hN => ?_)
  obtain ⟨rfl, hf2, M', hM2, hJ2, h21, h20⟩ := hN
  refine z_iload_n (pc := 10) dX6_hasWhite_10 rfl ?_
  refine z_if_eq (pc := 11) (tgt := 23) dX6_hasWhite_11 (by decide) (fun hc => ?_) (fun hc => ?_)
  · have hr := z_b_0 hc
    refine z_iconst_m1 (pc := 23) dX6_hasWhite_23 ?_
    refine z_istore3 (pc := 24) dX6_hasWhite_24 ?_
    refine z_aload_n (pc := 25) dX6_hasWhite_25 rfl (by first | rfl | exact z_isr_rf _) ?_
    refine z_iload_n (pc := 26) dX6_hasWhite_26 rfl ?_
    refine z_iload_n (pc := 27) dX6_hasWhite_27 rfl ?_
    refine z_iconst_m1 (pc := 28) dX6_hasWhite_28 ?_
    refine z_icmp_eq (pc := 29) (tgt := 36) dX6_hasWhite_29 (by decide) (fun _ => ?_) (fun hn => absurd (rfl) hn)
    refine z_iconst_0 (pc := 36) dX6_hasWhite_36 ?_
    refine z_iconst_1 (pc := 37) dX6_hasWhite_37 ?_
    refine z_callV (pc := 38) (mX6_goes (P1 := z_rg x (N 0 0)) (P2 := False) hM2 rfl (z_b_f (fun h => h)).symm z_tt) dX6_hasWhite_38 cwX6_91 okX6_goes rfl (hM2.k22) rfl rfl (by omega) rfl (Nat.le_of_ble_eq_true rfl) (by omega) (by omega) (fun _ _ h => h.elim) (fun v wN hN => ?_)
    obtain ⟨rfl, hM3, hf3⟩ := hN
    rw [z_go_1 hr] at hM3
    rw [z_b_f (P := z_rg x (N 0 0) ∧ False ∧ True) (fun h => hr h.1)]
    refine z_if_ne (pc := 41) (tgt := 46) dX6_hasWhite_41 (by decide) (fun hn => absurd ((by decide : (0 : Int32) = 0)) hn) (fun _ => ?_)
    refine z_iconst_0 (pc := 44) dX6_hasWhite_44 ?_
    refine z_zret (pc := 45) dX6_hasWhite_45 rfl (Or.inl rfl ) ( ⟨hf2.tr hf3, _, hM3, hJ2.set21 1, Or.inr (Or.inr ⟨by rw [e6]; exact hr, rfl, by rw [z_sM_s, z_upd_s]⟩)⟩)
  · have hr := z_b_1 hc
    have hr2 := hr
    obtain ⟨j, hj, rfl⟩ := hr2
    have hj3 : j < 2 ^ 31 := by omega
    refine z_aload_n (pc := 14) dX6_hasWhite_14 rfl (by first | rfl | exact z_isr_rf _) ?_
    refine gfX6_56 (pc := 15) rfl dX6_hasWhite_15 (hM2.k22) rfl ?_
    refine z_iload_n (pc := 18) dX6_hasWhite_18 rfl ?_
    refine z_iald (pc := 19) dX6_hasWhite_19 (hM2.k20) (vp_in_nI (by omega) (by omega)) ?_
    refine z_goto (pc := 20) (tgt := 24) dX6_hasWhite_20 (by decide) ?_
    refine z_istore3 (pc := 24) dX6_hasWhite_24 ?_
    refine z_aload_n (pc := 25) dX6_hasWhite_25 rfl (by first | rfl | exact z_isr_rf _) ?_
    refine z_iload_n (pc := 26) dX6_hasWhite_26 rfl ?_
    refine z_iload_n (pc := 27) dX6_hasWhite_27 rfl ?_
    refine z_iconst_m1 (pc := 28) dX6_hasWhite_28 ?_
    rw [nI_clamp hj3, h20 j hj]
    cases hq : z_pt I N O 1 j with
    | none =>
      refine z_icmp_eq (pc := 29) (tgt := 36) dX6_hasWhite_29 (by decide) (fun _ => ?_) (fun hn => absurd (rfl) hn)
      refine z_iconst_0 (pc := 36) dX6_hasWhite_36 ?_
      refine z_iconst_1 (pc := 37) dX6_hasWhite_37 ?_
      refine z_callV (pc := 38) (mX6_goes (P1 := z_rg (nI j) (N 0 0)) (P2 := False) hM2 rfl (z_b_f (fun h => h)).symm z_tt) dX6_hasWhite_38 cwX6_91 okX6_goes rfl (hM2.k22) rfl rfl (by omega) rfl (Nat.le_of_ble_eq_true rfl) (by omega) (by omega) (fun _ _ h => h.elim) (fun v wN hN => ?_)
      obtain ⟨rfl, hM3, hf3⟩ := hN
      rw [z_go_2 hr (fun h => h)] at hM3
      rw [z_b_f (P := z_rg (nI j) (N 0 0) ∧ False ∧ True) (fun h => h.2.1)]
      refine z_if_ne (pc := 41) (tgt := 46) dX6_hasWhite_41 (by decide) (fun hn => absurd ((by decide : (0 : Int32) = 0)) hn) (fun _ => ?_)
      refine z_iconst_0 (pc := 44) dX6_hasWhite_44 ?_
      refine z_zret (pc := 45) dX6_hasWhite_45 rfl (Or.inl rfl ) ( ⟨hf2.tr hf3, _, hM3, hJ2.set21 2, Or.inr (Or.inl ⟨j, by omega, rfl, hq, rfl, by rw [z_sM_s, z_upd_s]⟩)⟩)
    | some q =>
      have hq6 := z_pt_lt hJ.1 hq (by omega)
      have hq3 : q < 2 ^ 31 := by omega
      have ef : z_fi (some q) = nI q := rfl
      rw [ef]
      refine z_icmp_eq (pc := 29) (tgt := 36) dX6_hasWhite_29 (by decide) (fun hn => absurd hn (fun z => absurd (show nI q < 0 by rw [z]; decide) (nI_pos hq3))) (fun _ => ?_)
      refine z_iconst_1 (pc := 32) dX6_hasWhite_32 ?_
      refine z_goto (pc := 33) (tgt := 37) dX6_hasWhite_33 (by decide) ?_
      refine z_iconst_1 (pc := 37) dX6_hasWhite_37 ?_
      refine z_callV (pc := 38) (mX6_goes (P1 := z_rg (nI j) (N 0 0)) (P2 := True) hM2 rfl z_tt z_tt) dX6_hasWhite_38 cwX6_91 okX6_goes rfl (hM2.k22) rfl rfl (by omega) rfl (Nat.le_of_ble_eq_true rfl) (by omega) (by omega) (fun _ _ h => h.elim) (fun v wN hN => ?_)
      obtain ⟨rfl, hM3, hf3⟩ := hN
      rw [z_go_0 hr trivial trivial] at hM3
      rw [z_b_t (P := z_rg (nI j) (N 0 0) ∧ True ∧ True) ⟨hr, trivial, trivial⟩]
      refine z_if_ne (pc := 41) (tgt := 46) dX6_hasWhite_41 (by decide) (fun _ => ?_) (fun hn => absurd hn ((by decide : ¬ (1 : Int32) = 0)))
      have hcj := (hJ2.2.2.1.2.1 j hj).2.1
      have hcq := (hJ2.2.2.1.2.1 q (by omega)).2.1
      have c2 : ∀ k, z_sM M' 21 0 0 2 k = M' 2 k := fun k => rfl
      refine z_aload_n (pc := 46) dX6_hasWhite_46 rfl (by first | rfl | exact z_isr_rf _) ?_
      refine gfX6_13 (pc := 47) rfl dX6_hasWhite_47 (hM3.k22) rfl ?_
      refine z_iload_n (pc := 50) dX6_hasWhite_50 rfl ?_
      refine z_iald (pc := 51) dX6_hasWhite_51 (hM3.k2) (vp_in_nI (by omega) (by omega)) ?_
      refine z_aload_n (pc := 52) dX6_hasWhite_52 rfl (by first | rfl | exact z_isr_rf _) ?_
      refine gfX6_13 (pc := 53) rfl dX6_hasWhite_53 (hM3.k22) rfl ?_
      refine z_iload_n (pc := 56) dX6_hasWhite_56 rfl ?_
      refine z_iald (pc := 57) dX6_hasWhite_57 (hM3.k2) (vp_in_nI (by omega) (by omega)) ?_
      rw [nI_clamp hj3, nI_clamp hq3, c2, c2, hcj, hcq]
      refine z_icmp_lt (pc := 58) (tgt := 81) dX6_hasWhite_58 (by decide) (fun hd => ?_) (fun hd => ?_)
      · refine z_iconst_1 (pc := 81) dX6_hasWhite_81 ?_
        refine z_goto (pc := 82) (tgt := 86) dX6_hasWhite_82 (by decide) ?_
        refine z_zret (pc := 86) dX6_hasWhite_86 rfl (Or.inr rfl ) ( ⟨hf2.tr hf3, _, hM3, hJ2.set21 0, Or.inl ⟨j, q, by omega, rfl, hq, by rw [z_b_t (P := z_hw I j q) (Or.inl hd)], by rw [z_sM_s, z_upd_s]⟩⟩)
      · refine z_aload_n (pc := 61) dX6_hasWhite_61 rfl (by first | rfl | exact z_isr_rf _) ?_
        refine gfX6_13 (pc := 62) rfl dX6_hasWhite_62 (hM3.k22) rfl ?_
        refine z_iload_n (pc := 65) dX6_hasWhite_65 rfl ?_
        refine z_iald (pc := 66) dX6_hasWhite_66 (hM3.k2) (vp_in_nI (by omega) (by omega)) ?_
        refine z_aload_n (pc := 67) dX6_hasWhite_67 rfl (by first | rfl | exact z_isr_rf _) ?_
        refine gfX6_13 (pc := 68) rfl dX6_hasWhite_68 (hM3.k22) rfl ?_
        refine z_iload_n (pc := 71) dX6_hasWhite_71 rfl ?_
        refine z_iald (pc := 72) dX6_hasWhite_72 (hM3.k2) (vp_in_nI (by omega) (by omega)) ?_
        rw [nI_clamp hj3, nI_clamp hq3, c2, c2, hcj, hcq]
        refine z_icmp_ne (pc := 73) (tgt := 85) dX6_hasWhite_73 (by decide) (fun he => ?_) (fun he => ?_)
        · refine z_iconst_0 (pc := 85) dX6_hasWhite_85 ?_
          refine z_zret (pc := 86) dX6_hasWhite_86 rfl (Or.inl rfl ) ( ⟨hf2.tr hf3, _, hM3, hJ2.set21 0, Or.inl ⟨j, q, by omega, rfl, hq, by rw [z_b_f (P := z_hw I j q) (fun z => z.elim hd (fun z => he z.1))], by rw [z_sM_s, z_upd_s]⟩⟩)
        · refine z_iload_n (pc := 76) dX6_hasWhite_76 rfl ?_
          refine z_iload_n (pc := 77) dX6_hasWhite_77 rfl ?_
          refine z_icmp_ge (pc := 78) (tgt := 85) dX6_hasWhite_78 (by decide) (fun hg => ?_) (fun hg => ?_)
          · have hg := (nI_leI (by omega) (by omega)).1 hg
            refine z_iconst_0 (pc := 85) dX6_hasWhite_85 ?_
            refine z_zret (pc := 86) dX6_hasWhite_86 rfl (Or.inl rfl ) ( ⟨hf2.tr hf3, _, hM3, hJ2.set21 0, Or.inl ⟨j, q, by omega, rfl, hq, by rw [z_b_f (P := z_hw I j q) (fun z => z.elim hd (fun z => by omega))], by rw [z_sM_s, z_upd_s]⟩⟩)
          · have hg : ¬ q ≤ j := fun z => hg ((nI_leI (by omega) (by omega)).2 z)
            refine z_iconst_1 (pc := 81) dX6_hasWhite_81 ?_
            refine z_goto (pc := 82) (tgt := 86) dX6_hasWhite_82 (by decide) ?_
            refine z_zret (pc := 86) dX6_hasWhite_86 rfl (Or.inr rfl ) ( ⟨hf2.tr hf3, _, hM3, hJ2.set21 0, Or.inl ⟨j, q, by omega, rfl, hq, by rw [z_b_t (P := z_hw I j q) (Or.inr ⟨he, by omega⟩)], by rw [z_sM_s, z_upd_s]⟩⟩)
end MPR

