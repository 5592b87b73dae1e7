/-! the reference's puzzles: offered, makes -/
section MPY
variable {G : z_G} {F : Nat → Prop} {A : z_TA} {M : z_TM} {w : z_W} {I : z_TI} {N : z_TN} {O : z_TO} {B : z_TB}
theorem iX6_offered {QR QX} (hM : z_Mo G F A M w) {p nz : Nat} (hp : p < 8) (h40 : nz ≤ 40) (h13 : M 13 0 = nI nz) (hz14 : ∀ z, z < nz → M 14 z = I 9 z 0 ∧ I 9 z 0 - I 9 z 0 / 5 * 5 = nI (z_th I z)) (h3 : ∀ t, t < 5 → M 3 (5 * p + t) = I 3 p t ∧ z_rg (I 3 p t) 3001) (h4 : ∀ z, z < 40 → M 4 (40 * p + z) = I 4 p z) (kk : QR (some (.int (z_fi (z_of I p nz nz)))) w) : ∀ m i : Nat, nz - i = m → i ≤ nz → ∀ x4 x5 x6 x7, z_E G zX6_offered 2 (z_mq G QR QX) 20 [some (.ref (A 22 0 0)), some (.int (nI p)), some (.int (z_fi (z_of I p nz i))), some (.int (nI i)), x4, x5, x6, x7] [] w 0 0 := by
  intro m
  induction m with
  | zero =>
    intro i hm hi x4 x5 x6 x7
    have : i = nz := by omega
    subst this
    refine z_iload_n (pc := 20) dX6_offered_20 rfl ?_
    refine z_aload_n (pc := 21) dX6_offered_21 rfl (by first | rfl | exact z_isr_rf _) ?_
    refine gfX6_70 (pc := 22) rfl dX6_offered_22 (hM.k22) rfl ?_
    refine z_icmp_ge (pc := 25) (tgt := 146) dX6_offered_25 (by decide) (fun _ => ?_) (fun hn => absurd ((by rw [h13]; exact nI_le (Nat.le_refl _) (by omega))) hn)
    refine z_iload_n (pc := 146) dX6_offered_146 rfl ?_
    refine z_iret (pc := 147) dX6_offered_147 rfl (kk)
  | succ m ih =>
    intro i hm hi x4 x5 x6 x7
    have hin : i < nz := by omega
    have hi3 : i < 2 ^ 31 := by omega
    have ih := ih (i + 1) (by omega) (by omega)
    have hzi := hz14 i hin
    have hti : z_th I i < 5 := Nat.mod_lt _ (by decide)
    have e40 : (40 : Int32) * nI p + nI i = nI (40 * p + i) := by
      rw [show (40 : Int32) = nI 40 from rfl, z_nm, nI_add]
    refine z_iload_n (pc := 20) dX6_offered_20 rfl ?_
    refine z_aload_n (pc := 21) dX6_offered_21 rfl (by first | rfl | exact z_isr_rf _) ?_
    refine gfX6_70 (pc := 22) rfl dX6_offered_22 (hM.k22) rfl ?_
    refine z_icmp_ge (pc := 25) (tgt := 146) dX6_offered_25 (by decide) (fun hn => absurd hn ((by rw [h13]; exact nI_ge hin (by omega)))) (fun _ => ?_)
    refine z_aload_n (pc := 28) dX6_offered_28 rfl (by first | rfl | exact z_isr_rf _) ?_
    refine gfX6_38 (pc := 29) rfl dX6_offered_29 (hM.k22) rfl ?_
    refine z_iload_n (pc := 32) dX6_offered_32 rfl ?_
    refine z_iald (pc := 33) dX6_offered_33 (hM.k14) (vp_in_nI (by omega) (by omega)) ?_
    rw [nI_clamp hi3, hzi.1]
    refine z_iconst_5 (pc := 34) dX6_offered_34 ?_
    refine z_irem (pc := 35) dX6_offered_35 (by decide) ?_
    rw [hzi.2]
    have hno : z_of I p nz (i + 1) = z_of I p nz i → ∀ x4 x5 x6 x7, z_E G zX6_offered 2 (z_mq G QR QX) 126 [some (.ref (A 22 0 0)), some (.int (nI p)), some (.int (z_fi (z_of I p nz i))), some (.int (nI i)), x4, x5, x6, x7] [] w 0 0 := by
      intro h x4 x5 x6 x7
      rw [h] at ih
      refine z_iconst_0 (pc := 126) dX6_offered_126 ?_
      refine z_istore7 (pc := 127) dX6_offered_127 ?_
      refine z_iload (pc := 129) dX6_offered_129 rfl ?_
      refine z_if_eq (pc := 131) (tgt := 138) dX6_offered_131 (by decide) (fun _ => ?_) (fun hn => absurd (rfl) hn)
      refine z_iload_n (pc := 138) dX6_offered_138 rfl ?_
      refine z_istore2 (pc := 139) dX6_offered_139 ?_
      refine z_iinc3 (pc := 140) dX6_offered_140 ?_
      refine z_goto (pc := 143) (tgt := 20) dX6_offered_143 (by decide) ?_
      rw [nI_1]
      exact ih _ _ _ _
    have hyes : z_of I p nz (i + 1) = some i → ∀ x4 x5 x6 x7, z_E G zX6_offered 2 (z_mq G QR QX) 122 [some (.ref (A 22 0 0)), some (.int (nI p)), some (.int (z_fi (z_of I p nz i))), some (.int (nI i)), x4, x5, x6, x7] [] w 0 0 := by
      intro h x4 x5 x6 x7
      rw [h] at ih
      refine z_iconst_1 (pc := 122) dX6_offered_122 ?_
      refine z_goto (pc := 123) (tgt := 127) dX6_offered_123 (by decide) ?_
      refine z_istore7 (pc := 127) dX6_offered_127 ?_
      refine z_iload (pc := 129) dX6_offered_129 rfl ?_
      refine z_if_eq (pc := 131) (tgt := 138) dX6_offered_131 (by decide) (fun hn => absurd hn ((by decide : ¬ (1 : Int32) = 0))) (fun _ => ?_)
      refine z_iload_n (pc := 134) dX6_offered_134 rfl ?_
      refine z_goto (pc := 135) (tgt := 139) dX6_offered_135 (by decide) ?_
      refine z_istore2 (pc := 139) dX6_offered_139 ?_
      refine z_iinc3 (pc := 140) dX6_offered_140 ?_
      refine z_goto (pc := 143) (tgt := 20) dX6_offered_143 (by decide) ?_
      rw [nI_1]
      exact ih _ _ _ _
    have hst : ∀ (b l : Int32) x7, ((l > 0 ∨ (l = 0 ∧ nI (z_th I i) < b)) ↔ (∀ f, z_of I p nz i = some f → I 3 p (z_th I i) < I 3 p (z_th I f) ∨ (I 3 p (z_th I i) = I 3 p (z_th I f) ∧ z_th I i < z_th I f))) → z_E G zX6_offered 2 (z_mq G QR QX) 91 [some (.ref (A 22 0 0)), some (.int (nI p)), some (.int (z_fi (z_of I p nz i))), some (.int (nI i)), some (.int (nI (z_th I i))), some (.int b), some (.int l), x7] [] w 0 0 := by
      intro b l x7 hbl
      have y : I 4 p i = 0 → (l > 0 ∨ (l = 0 ∧ nI (z_th I i) < b)) → z_of I p nz (i + 1) = some i := fun q1 q2 => by
        rw [z_of]; exact if_pos ⟨hin, q1, hbl.1 q2⟩
      have n : ¬ (I 4 p i = 0 ∧ (l > 0 ∨ (l = 0 ∧ nI (z_th I i) < b))) → z_of I p nz (i + 1) = z_of I p nz i := fun q => by
        rw [z_of]; exact if_neg (fun z => q ⟨z.2.1, hbl.2 z.2.2⟩)
      refine z_aload_n (pc := 91) dX6_offered_91 rfl (by first | rfl | exact z_isr_rf _) ?_
      refine gfX6_19 (pc := 92) rfl dX6_offered_92 (hM.k22) rfl ?_
      refine z_bipush_40 (pc := 95) dX6_offered_95 ?_
      refine z_iload_n (pc := 97) dX6_offered_97 rfl ?_
      refine z_imul (pc := 98) dX6_offered_98 ?_
      refine z_iload_n (pc := 99) dX6_offered_99 rfl ?_
      refine z_iadd (pc := 100) dX6_offered_100 ?_
      rw [e40]
      refine z_zald (pc := 101) dX6_offered_101 (hM.k4) (vp_in_nI (by omega) (by omega)) ?_
      rw [nI_clamp (show 40 * p + i < 2 ^ 31 by omega), h4 i (by omega)]
      refine z_if_ne (pc := 102) (tgt := 126) dX6_offered_102 (by decide) (fun h1 => ?_) (fun h1 => ?_)
      · exact hno (n (fun z => h1 z.1)) _ _ _ _
      · refine z_iload (pc := 105) dX6_offered_105 rfl ?_
        refine z_if_gt (pc := 107) (tgt := 122) dX6_offered_107 (by decide) (fun h2 => ?_) (fun h2 => ?_)
        · exact hyes (y h1 (Or.inl h2)) _ _ _ _
        · refine z_iload (pc := 110) dX6_offered_110 rfl ?_
          refine z_if_ne (pc := 112) (tgt := 126) dX6_offered_112 (by decide) (fun h5 => ?_) (fun h5 => ?_)
          · exact hno (n (fun z => z.2.elim h2 (fun z => h5 z.1))) _ _ _ _
          · refine z_iload (pc := 115) dX6_offered_115 rfl ?_
            refine z_iload (pc := 117) dX6_offered_117 rfl ?_
            refine z_icmp_ge (pc := 119) (tgt := 126) dX6_offered_119 (by decide) (fun h6 => ?_) (fun h6 => ?_)
            · exact hno (n (fun z => z.2.elim h2 (fun z => Int32.not_lt.mpr h6 z.2))) _ _ _ _
            · exact hyes (y h1 (Or.inr ⟨h5, Int32.not_le.mp h6⟩)) _ _ _ _
    refine z_istore4 (pc := 36) dX6_offered_36 ?_
    refine z_iload_n (pc := 38) dX6_offered_38 rfl ?_
    refine z_iconst_m1 (pc := 39) dX6_offered_39 ?_
    cases hf : z_of I p nz i with
    | none =>
      rw [hf] at hst
      refine z_icmp_ne (pc := 40) (tgt := 47) dX6_offered_40 (by decide) (fun hn => absurd (rfl) hn) (fun _ => ?_)
      refine z_iconst_0 (pc := 43) dX6_offered_43 ?_
      refine z_goto (pc := 44) (tgt := 55) dX6_offered_44 (by decide) ?_
      refine z_istore5 (pc := 55) dX6_offered_55 ?_
      refine z_iload_n (pc := 57) dX6_offered_57 rfl ?_
      refine z_iconst_m1 (pc := 58) dX6_offered_58 ?_
      refine z_icmp_ne (pc := 59) (tgt := 66) dX6_offered_59 (by decide) (fun hn => absurd (rfl) hn) (fun _ => ?_)
      refine z_iconst_1 (pc := 62) dX6_offered_62 ?_
      refine z_goto (pc := 63) (tgt := 89) dX6_offered_63 (by decide) ?_
      refine z_istore6 (pc := 89) dX6_offered_89 ?_
      exact hst 0 1 _ ⟨fun _ f q => by (cases q), fun _ => Or.inl (by decide)⟩
    | some f =>
      rw [hf] at hst
      have ef : z_fi (some f) = nI f := rfl
      rw [ef] at hst ⊢
      have hfl := z_of_lt hf
      have hzf := hz14 f hfl.2
      have htf : z_th I f < 5 := Nat.mod_lt _ (by decide)
      have hfm : ¬ nI f = -1 := fun q => nI_pos (n := f) (by omega) (by rw [q]; decide)
      have e5 : ∀ t, (5 : Int32) * nI p + nI t = nI (5 * p + t) := fun t => by
        rw [show (5 : Int32) = nI 5 from rfl, z_nm, nI_add]
      refine z_icmp_ne (pc := 40) (tgt := 47) dX6_offered_40 (by decide) (fun _ => ?_) (fun hn => absurd hn (hfm))
      refine z_aload_n (pc := 47) dX6_offered_47 rfl (by first | rfl | exact z_isr_rf _) ?_
      refine gfX6_38 (pc := 48) rfl dX6_offered_48 (hM.k22) rfl ?_
      refine z_iload_n (pc := 51) dX6_offered_51 rfl ?_
      refine z_iald (pc := 52) dX6_offered_52 (hM.k14) (vp_in_nI (show f < 40 by omega) (by omega)) ?_
      rw [nI_clamp (show f < 2 ^ 31 by omega), hzf.1]
      refine z_iconst_5 (pc := 53) dX6_offered_53 ?_
      refine z_irem (pc := 54) dX6_offered_54 (by decide) ?_
      rw [hzf.2]
      refine z_istore5 (pc := 55) dX6_offered_55 ?_
      refine z_iload_n (pc := 57) dX6_offered_57 rfl ?_
      refine z_iconst_m1 (pc := 58) dX6_offered_58 ?_
      refine z_icmp_ne (pc := 59) (tgt := 66) dX6_offered_59 (by decide) (fun _ => ?_) (fun hn => absurd hn (hfm))
      refine z_aload_n (pc := 66) dX6_offered_66 rfl (by first | rfl | exact z_isr_rf _) ?_
      refine gfX6_16 (pc := 67) rfl dX6_offered_67 (hM.k22) rfl ?_
      refine z_iconst_5 (pc := 70) dX6_offered_70 ?_
      refine z_iload_n (pc := 71) dX6_offered_71 rfl ?_
      refine z_imul (pc := 72) dX6_offered_72 ?_
      refine z_iload (pc := 73) dX6_offered_73 rfl ?_
      refine z_iadd (pc := 75) dX6_offered_75 ?_
      rw [e5]
      refine z_iald (pc := 76) dX6_offered_76 (hM.k3) (vp_in_nI (by omega) (by omega)) ?_
      rw [nI_clamp (show 5 * p + z_th I f < 2 ^ 31 by omega), (h3 _ htf).1]
      refine z_aload_n (pc := 77) dX6_offered_77 rfl (by first | rfl | exact z_isr_rf _) ?_
      refine gfX6_16 (pc := 78) rfl dX6_offered_78 (hM.k22) rfl ?_
      refine z_iconst_5 (pc := 81) dX6_offered_81 ?_
      refine z_iload_n (pc := 82) dX6_offered_82 rfl ?_
      refine z_imul (pc := 83) dX6_offered_83 ?_
      refine z_iload (pc := 84) dX6_offered_84 rfl ?_
      refine z_iadd (pc := 86) dX6_offered_86 ?_
      rw [e5]
      refine z_iald (pc := 87) dX6_offered_87 (hM.k3) (vp_in_nI (by omega) (by omega)) ?_
      rw [nI_clamp (show 5 * p + z_th I i < 2 ^ 31 by omega), (h3 _ hti).1]
      refine z_isub (pc := 88) dX6_offered_88 ?_
      refine z_istore6 (pc := 89) dX6_offered_89 ?_
      refine hst _ _ _ ?_
      obtain ⟨a, ha, ea⟩ := (h3 _ htf).2
      obtain ⟨b, hb, eb⟩ := (h3 _ hti).2
      have hl := z_lsub ha hb
      rw [ea, eb]
      constructor
      · rintro h f' q
        cases q
        rw [ea, nI_ltI (by omega) (by omega), nI_eq (by omega) (by omega)]
        rcases h with h | ⟨h, h'⟩
        · exact Or.inl (hl.1.1 h)
        · exact Or.inr ⟨(hl.2.1 h).symm, (nI_ltI (by omega) (by omega)).1 h'⟩
      · intro h
        have h := h f rfl
        rw [ea, nI_ltI (by omega) (by omega), nI_eq (by omega) (by omega)] at h
        rcases h with h | ⟨h, h'⟩
        · exact Or.inl (hl.1.2 h)
        · exact Or.inr ⟨hl.2.2 h.symm, (nI_ltI (by omega) (by omega)).2 h'⟩
theorem mX6_offered (hM : z_Mo G F A M w) (hJ : z_J I N O B M) (x : Int32) : z_M G zX6_offered 2 [.ref (A 22 0 0), .int x] w 0 0 (fun v w' => z_fr F w w' ∧ z_Mo G F A (z_sM M 21 0 (z_go (z_rg x (N 6 0)) True True)) w' ∧ ((∃ p, p < N 6 0 ∧ x = nI p ∧ v = some (.int (z_fi (z_of I p (N 8 0) 40)))) ∨ (¬ z_rg x (N 6 0) ∧ v = some (.int 0)))) z_nx := by
  have hS := hJ.1
  have h6 : N 6 0 = N 0 0 := hS.1
  have h8 : N 8 0 = N 2 0 := hS.2.2.1
  have l6 : N 6 0 ≤ 8 := by rw [h6]; exact hS.2.2.2.1
  have l8 : N 8 0 ≤ 40 := by rw [h8]; exact hS.2.2.2.2.2.1
  have hP := hJ.2.2.1
  have hZ := hJ.2.2.2.2.1
  have h0 : M 0 0 = nI (N 6 0) := by rw [h6]; exact hP.1
  have h13 : M 13 0 = nI (N 8 0) := by rw [h8]; exact hZ.1
  refine z_M.of (by decide +kernel) rfl (by intro v hv; simp only [List.mem_cons, List.not_mem_nil, or_false] at hv; rcases hv with rfl | rfl <;> first | rfl | exact z_isr_cat (z_isr_rf _)) (Nat.le_of_ble_eq_true rfl) ?_
  show z_E _ zX6_offered _ _ 0 [some (.ref (A 22 0 0)), some (.int x), none, none, none, none, none, none] [] _ _ _
  refine z_aload_n (pc := 0) dX6_offered_0 rfl (by first | rfl | exact z_isr_rf _) ?_
  refine z_aload_n (pc := 1) dX6_offered_1 rfl (by first | rfl | exact z_isr_rf _) ?_
  refine z_iload_n (pc := 2) dX6_offered_2 rfl ?_
  refine z_callVp (pc := 3) (mX6_isPlayer hM h0 (by omega) x) dX6_offered_3 cwX6_102 okX6_isPlayer rfl (hM.k22) rfl rfl (by omega) rfl (Nat.le_of_ble_eq_true rfl) ?_
  refine z_iconst_1 (pc := 6) dX6_offered_6 ?_
  refine z_iconst_1 (pc := 7) dX6_offered_7 ?_
  refine z_callV (pc := 8) (mX6_goes hM rfl z_tt z_tt) dX6_offered_8 cwX6_91 okX6_goes rfl (hM.k22) rfl rfl (by omega) rfl (Nat.le_of_ble_eq_true rfl) (by omega) (by omega) (fun _ _ h => h.elim) (fun v wN hN => ?_)
  obtain ⟨rfl, hM2, hf2⟩ := hN
  rw [z_b_a]
  refine z_if_ne (pc := 11) (tgt := 16) dX6_offered_11 (by decide) (fun hc => ?_) (fun hc => ?_)
  · obtain ⟨p, hp, rfl⟩ := z_b_1 hc
    have hpz := hP.2.1 p (by omega)
    refine z_iconst_m1 (pc := 16) dX6_offered_16 ?_
    refine z_istore2 (pc := 17) dX6_offered_17 ?_
    refine z_iconst_0 (pc := 18) dX6_offered_18 ?_
    refine z_istore3 (pc := 19) dX6_offered_19 ?_
    exact iX6_offered (I := I) hM2 (p := p) (nz := N 8 0) (by omega) l8 h13 (fun z hz => ⟨(hZ.2 z (by omega)).1, hJ.hT z hz⟩) hpz.2.2.1 hpz.2.2.2 ⟨hf2, hM2, Or.inl ⟨p, hp, rfl, by rw [z_of_ge 40 l8]⟩⟩ (N 8 0) 0 rfl (Nat.zero_le _) _ _ _ _
  · refine z_iconst_0 (pc := 14) dX6_offered_14 ?_
    refine z_iret (pc := 15) dX6_offered_15 rfl (⟨hf2, hM2, Or.inr ⟨z_b_0 hc, rfl⟩⟩)
theorem iX6_makes {QR QX} {w0 : z_W} {g mc : Nat} {I0 : z_TI} {N0 : z_TN} {B : z_TB} {b0 : Int32} {mv : Nat → Int32} {gm : Int32} (hgm : gm = nI g) (hg : g < 60) (h12 : mc ≤ 12) (hmv : ∀ i, i < mc → z_rg (mv i) 4) (kk : ∀ M' w', z_fr F w0 w' → z_Mo G F A M' w' → z_J (z_mk gm mv mc I0 N0 0 1 0).1 (z_mk gm mv mc I0 N0 0 1 0).2.1 O B M' → M' 21 0 = M 21 0 → QR (some (.int (z_mk gm mv mc I0 N0 0 1 0).2.2)) w') : ∀ m i : Nat, mc - i = m → i ≤ mc → ∀ (I : z_TI) (N : z_TN) (M' : z_TM) (w : z_W) (x c : Int32) x5, z_Mo G F A M' w → z_fr F w0 w → z_J I N O B M' → M' 21 0 = M 21 0 → N 5 g = mc → g < N 1 0 → I 8 g = mv → z_rg x 1000 → nI (N 2 0) - b0 = c → z_mk gm mv m I N i x c = z_mk gm mv mc I0 N0 0 1 0 → z_E G zX6_makes 4 (z_mq G QR QX) 10 [some (.ref (A 22 0 0)), some (.int (nI g)), some (.int b0), some (.int x), some (.int (nI i)), x5] [] w 0 0 := by
  intro m
  induction m with
  | zero =>
    intro i hm hi I N M' w x c x5 hM hf hJ h21 hmc hg1 hI8 hx hc hmk
    have : i = mc := by omega
    subst this
    have h10 := (hJ.2.2.2.1.2.2.2.1 g hg1).2.2.2.1
    have h13 := hJ.2.2.2.2.1.1
    refine z_iload (pc := 10) dX6_makes_10 rfl ?_
    refine z_aload_n (pc := 12) dX6_makes_12 rfl (by first | rfl | exact z_isr_rf _) ?_
    refine gfX6_29 (pc := 13) rfl dX6_makes_13 (hM.k22) rfl ?_
    refine z_iload_n (pc := 16) dX6_makes_16 rfl ?_
    refine z_iald (pc := 17) dX6_makes_17 (hM.k10) (vp_in_nI hg (by omega)) ?_
    rw [nI_clamp (show g < 2 ^ 31 by omega), h10, hmc]
    refine z_icmp_ge (pc := 18) (tgt := 104) dX6_makes_18 (by decide) (fun _ => ?_) (fun hn => absurd (nI_le (Nat.le_refl _) (by omega)) hn)
    refine z_aload_n (pc := 104) dX6_makes_104 rfl (by first | rfl | exact z_isr_rf _) ?_
    refine gfX6_70 (pc := 105) rfl dX6_makes_105 (hM.k22) rfl ?_
    refine z_iload_n (pc := 108) dX6_makes_108 rfl ?_
    refine z_isub (pc := 109) dX6_makes_109 ?_
    rw [h13, hc]
    rw [← hmk] at kk
    refine z_iret (pc := 110) dX6_makes_110 rfl (kk _ _ hf hM hJ h21)
  | succ m ih =>
    intro i hm hi I N M' w x c x5 hM hf hJ h21 hmc hg1 hI8 hx hc hmk
    have hin : i < mc := by omega
    have hm1 : mc - (i + 1) = m := by omega
    have hGg := hJ.2.2.2.1.2.2.2.1 g hg1
    have h10 := hGg.2.2.2.1
    have h12m := (hGg.2.2.2.2.2.2 i (by omega)).1
    rw [hI8] at h12m
    have h13 := hJ.2.2.2.2.1.1
    have l40 : N 2 0 ≤ 40 := hJ.1.2.2.2.2.2.1
    have h82 : N 8 0 = N 2 0 := hJ.1.2.2.1
    have e : (12 : Int32) * nI g + nI i = nI (12 * g + i) := by
      rw [show (12 : Int32) = nI 12 from rfl, z_nm, nI_add]
    rw [z_mk] at hmk
    refine z_iload (pc := 10) dX6_makes_10 rfl ?_
    refine z_aload_n (pc := 12) dX6_makes_12 rfl (by first | rfl | exact z_isr_rf _) ?_
    refine gfX6_29 (pc := 13) rfl dX6_makes_13 (hM.k22) rfl ?_
    refine z_iload_n (pc := 16) dX6_makes_16 rfl ?_
    refine z_iald (pc := 17) dX6_makes_17 (hM.k10) (vp_in_nI hg (by omega)) ?_
    rw [nI_clamp (show g < 2 ^ 31 by omega), h10, hmc]
    refine z_icmp_ge (pc := 18) (tgt := 104) dX6_makes_18 (by decide) (fun hn => absurd hn (nI_ge hin (by omega))) (fun _ => ?_)
    refine z_aload_n (pc := 21) dX6_makes_21 rfl (by first | rfl | exact z_isr_rf _) ?_
    refine gfX6_35 (pc := 22) rfl dX6_makes_22 (hM.k22) rfl ?_
    refine z_bipush_12 (pc := 25) dX6_makes_25 ?_
    refine z_iload_n (pc := 27) dX6_makes_27 rfl ?_
    refine z_imul (pc := 28) dX6_makes_28 ?_
    refine z_iload (pc := 29) dX6_makes_29 rfl ?_
    refine z_iadd (pc := 31) dX6_makes_31 ?_
    rw [e]
    refine z_iald (pc := 32) dX6_makes_32 (hM.k12) (vp_in_nI (by omega) (by omega)) ?_
    rw [nI_clamp (show 12 * g + i < 2 ^ 31 by omega), h12m]
    refine z_istore5 (pc := 33) dX6_makes_33 ?_
    refine z_iload_n (pc := 35) dX6_makes_35 rfl ?_
    refine z_iload (pc := 36) dX6_makes_36 rfl ?_
    refine z_callSp (pc := 38) (mX6_isBlunder G _ x (mv i)) dX6_makes_38 cwX6_108 okX6_isBlunder rfl (by omega) rfl (Nat.le_of_ble_eq_true rfl) ?_
    have hhp : (∃ z, z < N 2 0 ∧ M' 14 z = x) ↔ z_hp I N x := by
      unfold z_hp
      rw [h82]
      constructor
      · rintro ⟨z, h1, h2⟩
        exact ⟨z, h1, by rw [← (hJ.2.2.2.2.1.2 z h1).1]; exact h2⟩
      · rintro ⟨z, h1, h2⟩
        exact ⟨z, h1, by rw [(hJ.2.2.2.2.1.2 z h1).1]; exact h2⟩
    have go : ∀ (I2 : z_TI) (N2 : z_TN) (M2 : z_TM) (w2 : z_W) (c2 : Int32), z_Mo G F A M2 w2 → z_fr F w0 w2 → z_J I2 N2 O B M2 → M2 21 0 = M 21 0 → N2 5 g = mc → g < N2 1 0 → I2 8 g = mv → nI (N2 2 0) - b0 = c2 → z_mk gm mv m I2 N2 (i + 1) (nx x (mv i)) c2 = z_mk gm mv mc I0 N0 0 1 0 → z_E G zX6_makes 4 (z_mq G QR QX) 91 [some (.ref (A 22 0 0)), some (.int (nI g)), some (.int b0), some (.int x), some (.int (nI i)), some (.int (mv i))] [] w2 0 0 := by
      intro I2 N2 M2 w2 c2 hM2 hf2 hJ2 h212 hmc2 hg2 hI82 hc2 hmk2
      refine z_iload_n (pc := 91) dX6_makes_91 rfl ?_
      refine z_iload (pc := 92) dX6_makes_92 rfl ?_
      refine z_callSp (pc := 94) (mX6_next G _ x (mv i)) dX6_makes_94 cwX6_73 okX6_next rfl (by omega) rfl (Nat.le_of_ble_eq_true rfl) ?_
      refine z_istore3 (pc := 97) dX6_makes_97 ?_
      refine z_iinc4 (pc := 98) dX6_makes_98 ?_
      refine z_goto (pc := 101) (tgt := 10) dX6_makes_101 (by decide) ?_
      rw [nI_1]
      exact ih (i + 1) hm1 hin I2 N2 M2 w2 _ c2 _ hM2 hf2 hJ2 h212 hmc2 hg2 hI82 (z_nxg hx (hmv i hin)) hc2 hmk2
    have hbl := z_bl hx (hmv i hin)
    refine z_if_eq (pc := 41) (tgt := 91) dX6_makes_41 (by decide) (fun h1 => ?_) (fun h1 => ?_)
    · rw [if_pos (Or.inl (hbl.trans h1))] at hmk
      exact go I N M' w c hM hf hJ h21 hmc hg1 hI8 hc hmk
    · refine z_aload_n (pc := 44) dX6_makes_44 rfl (by first | rfl | exact z_isr_rf _) ?_
      refine z_iload_n (pc := 45) dX6_makes_45 rfl ?_
      refine z_callVp (pc := 46) (mX6_hasPuzzle hM h13 l40 x) dX6_makes_46 cwX6_112 okX6_hasPuzzle rfl (hM.k22) rfl rfl (by omega) rfl (Nat.le_of_ble_eq_true rfl) ?_
      refine z_if_ne (pc := 49) (tgt := 91) dX6_makes_49 (by decide) (fun h2 => ?_) (fun h2 => ?_)
      · rw [if_pos (Or.inr (Or.inr (hhp.1 (z_b_1 h2))))] at hmk
        exact go I N M' w c hM hf hJ h21 hmc hg1 hI8 hc hmk
      · refine z_aload_n (pc := 52) dX6_makes_52 rfl (by first | rfl | exact z_isr_rf _) ?_
        refine gfX6_70 (pc := 53) rfl dX6_makes_53 (hM.k22) rfl ?_
        refine z_bipush_40 (pc := 56) dX6_makes_56 ?_
        rw [h13]
        refine z_icmp_ge (pc := 58) (tgt := 91) dX6_makes_58 (by decide) (fun h3 => ?_) (fun h3 => ?_)
        · have h3 := (nI_leI (a := 40) (b := N 2 0) (by omega) (by omega)).1 h3
          rw [if_pos (Or.inr (Or.inl (by omega)))] at hmk
          exact go I N M' w c hM hf hJ h21 hmc hg1 hI8 hc hmk
        · have h3 : ¬ 40 ≤ N 2 0 := fun z => h3 ((nI_leI (a := 40) (b := N 2 0) (by omega) (by omega)).2 z)
          rw [if_neg (by rintro (q | q | q); exact h1 (hbl.symm.trans q); exact q (by omega); exact z_b_0 h2 (hhp.2 q))] at hmk
          refine z_aload_n (pc := 61) dX6_makes_61 rfl (by first | rfl | exact z_isr_rf _) ?_
          refine gfX6_38 (pc := 62) rfl dX6_makes_62 (hM.k22) rfl ?_
          refine z_aload_n (pc := 65) dX6_makes_65 rfl (by first | rfl | exact z_isr_rf _) ?_
          refine gfX6_70 (pc := 66) rfl dX6_makes_66 (hM.k22) rfl ?_
          rw [h13]
          refine z_iload_n (pc := 69) dX6_makes_69 rfl ?_
          refine z_iast (pc := 70) dX6_makes_70 (hM.k14) (vp_in_nI (show N 2 0 < 40 by omega) (by omega)) ?_
          rw [nI_clamp (show N 2 0 < 2 ^ 31 by omega)]
          refine z_genM (hM.p14 (N 2 0) x) (fun w2 hM2 hf2 => ?_)
          refine z_aload_n (pc := 71) dX6_makes_71 rfl (by first | rfl | exact z_isr_rf _) ?_
          refine gfX6_41 (pc := 72) rfl dX6_makes_72 (hM2.k22) rfl ?_
          refine z_aload_n (pc := 75) dX6_makes_75 rfl (by first | rfl | exact z_isr_rf _) ?_
          refine gfX6_70 (pc := 76) rfl dX6_makes_76 (hM2.k22) rfl ?_
          rw [show z_sM M' 14 (N 2 0) x 13 0 = nI (N 2 0) from h13]
          refine z_iload_n (pc := 79) dX6_makes_79 rfl ?_
          refine z_iast (pc := 80) dX6_makes_80 (hM2.k15) (vp_in_nI (show N 2 0 < 40 by omega) (by omega)) ?_
          rw [nI_clamp (show N 2 0 < 2 ^ 31 by omega)]
          refine z_genM (hM2.p15 (N 2 0) (nI g)) (fun w3 hM3 hf3 => ?_)
          refine z_aload_n (pc := 81) dX6_makes_81 rfl (by first | rfl | exact z_isr_rf _) ?_
          refine z_dup (pc := 82) dX6_makes_82 (by first | rfl | exact z_isr_cat (z_isr_rf _)) ?_
          refine gfX6_70 (pc := 83) rfl dX6_makes_83 (hM3.k22) rfl ?_
          refine z_iconst_1 (pc := 86) dX6_makes_86 ?_
          refine z_iadd (pc := 87) dX6_makes_87 ?_
          rw [show z_sM (z_sM M' 14 (N 2 0) x) 15 (N 2 0) (nI g) 13 0 = nI (N 2 0) from h13, nI_1]
          refine pfX6_70 (pc := 88) rfl dX6_makes_88 (hM3.k22) (Nat.le_of_ble_eq_true rfl) ?_
          refine z_genM (hM3.p13 (nI (N 2 0 + 1))) (fun w4 hM4 hf4 => ?_)
          have e5 : z_NZ N 5 = N 5 := by unfold z_NZ; rw [z_sN_f _ _ _ (by decide), z_sN_f _ _ _ (by decide)]
          have e1 : z_NZ N 1 = N 1 := by unfold z_NZ; rw [z_sN_f _ _ _ (by decide), z_sN_f _ _ _ (by decide)]
          have e2 : z_NZ N 2 0 = N 2 0 + 1 := by simp [z_NZ, z_sN]
          have e8 : z_IZ I (N 2 0) x gm 8 = I 8 := by unfold z_IZ; rw [z_sF_f _ _ _ (by decide), z_sF_f _ _ _ (by decide)]
          have hJ2 := hJ.addZ (x := x) (gm := gm) (by omega) hx
          rw [hgm] at hJ2
          refine go (z_IZ I (N 2 0) x gm) (z_NZ N) _ w4 (c + 1) hM4 (hf.tr (hf2.tr (hf3.tr hf4))) (by rw [hgm]; exact hJ2) h21 (by rw [e5]; exact hmc) (by rw [e1]; exact hg1) (by rw [e8]; exact hI8) ?_ hmk
          rw [e2, ← nI_1, ← hc]
          rw [Int32.sub_eq_add_neg, Int32.sub_eq_add_neg, Int32.add_assoc, Int32.add_assoc, Int32.add_comm 1]
theorem mX6_makes (hM : z_Mo G F A M w) (hJ : z_J I N O B M) {g : Nat} (hg : g < N 1 0) (gm : Int32) (hgm : gm = nI g) : z_M G zX6_makes 4 [.ref (A 22 0 0), .int (nI g)] w 0 0 (fun v w' => v = some (.int (z_mk gm (I 8 g) (N 5 g) I N 0 1 0).2.2) ∧ z_fr F w w' ∧ ∃ M', z_Mo G F A M' w' ∧ z_J (z_mk gm (I 8 g) (N 5 g) I N 0 1 0).1 (z_mk gm (I 8 g) (N 5 g) I N 0 1 0).2.1 O B M' ∧ M' 21 0 = M 21 0) z_nx := by
  have h13 := hJ.2.2.2.2.1.1
  refine z_M.of (by decide +kernel) rfl (by intro v hv; simp only [List.mem_cons, List.not_mem_nil, or_false] at hv; rcases hv with rfl | rfl <;> first | rfl | exact z_isr_cat (z_isr_rf _)) (Nat.le_of_ble_eq_true rfl) ?_
  show z_E _ zX6_makes _ _ 0 [some (.ref (A 22 0 0)), some (.int (nI g)), none, none, none, none] [] _ _ _
  refine z_aload_n (pc := 0) dX6_makes_0 rfl (by first | rfl | exact z_isr_rf _) ?_
  refine gfX6_70 (pc := 1) rfl dX6_makes_1 (hM.k22) rfl ?_
  refine z_istore2 (pc := 4) dX6_makes_4 ?_
  refine z_iconst_1 (pc := 5) dX6_makes_5 ?_
  refine z_istore3 (pc := 6) dX6_makes_6 ?_
  refine z_iconst_0 (pc := 7) dX6_makes_7 ?_
  refine z_istore4 (pc := 8) dX6_makes_8 ?_
  rw [h13]
  exact iX6_makes (O := O) (B := B) (M := M) (I0 := I) (N0 := N) (mc := N 5 g) (mv := I 8 g) hgm (Nat.lt_of_lt_of_le hg hJ.1.2.2.2.2.1) (hJ.1.2.2.2.2.2.2.1 g hg).2.2 (fun i hi => ((hJ.2.2.2.1.2.2.2.1 g hg).2.2.2.2.2.2 i hi).2) (fun M' w' a b c d => ⟨rfl, a, M', b, c, d⟩) (N 5 g) 0 rfl (Nat.zero_le _) I N M w 1 0 _ hM z_fr.rf hJ rfl rfl hg rfl ⟨1, by decide, rfl⟩ (Int32.sub_self _) rfl
end MPY

