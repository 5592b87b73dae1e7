/-! the reference's loops over games and puzzles -/
theorem z_or : ∀ k, k < 6 → ∀ m, m < 4 → ∀ a, a < 4 ^ k → nI a ||| (nI m <<< ((2 * nI k) &&& 31)) = nI (a + m * 4 ^ k) := by decide +kernel
theorem z_px_c {f g : Nat → Nat} : ∀ n, (∀ i, i < n → f i = g i) → z_px f n = z_px g n
  | 0, _ => rfl
  | n + 1, h => by
    unfold z_px
    rw [z_px_c n (fun i hi => h i (by omega)), h n (by omega)]
/-- the two have played a game that ended -/
def z_mt (M : z_TM) (e : Nat) (a b : Int32) : Prop := ∃ g, g < e ∧ ((M 8 g = a ∧ M 9 g = b) ∨ (M 8 g = b ∧ M 9 g = a))
theorem z_mt_s {M : z_TM} {e : Nat} {a b : Int32} : z_mt M (e + 1) a b ↔ z_mt M e a b ∨ ((M 8 e = a ∧ M 9 e = b) ∨ (M 8 e = b ∧ M 9 e = a)) := by
  constructor
  · rintro ⟨g, h1, h2⟩
    by_cases q : g = e
    · exact Or.inr (q ▸ h2)
    · exact Or.inl ⟨g, by omega, h2⟩
  · rintro (⟨g, h1, h2⟩ | h)
    · exact ⟨g, by omega, h2⟩
    · exact ⟨e, by omega, h⟩
/-- the results of the games among the first k that begin with a line -/
def z_mp (M : z_TM) (mc : Nat → Nat) (mv : Nat → Nat → Nat) (l n : Nat) : Nat → Int32
  | 0 => 0
  | g + 1 => if n ≤ mc g ∧ z_px (mv g) n = l then z_mp M mc mv l n g + M 11 g else z_mp M mc mv l n g
section MG
variable {G : z_G} {F : Nat → Prop} {A : z_TA} {M : z_TM} {w : z_W}
theorem iX6_lineOf {QX} (hM : z_Mo G F A M w) {g n : Nat} {mv : Nat → Nat} (hg : g < 60) (h6 : n ≤ 6) (hmv : ∀ i, i < n → M 12 (12 * g + i) = nI (mv i) ∧ mv i < 4) : ∀ m i : Nat, n - i = m → i ≤ n → z_E G zX6_lineOf 1 (z_mq G (z_rp (.int (nI (z_px mv n))) w) QX) 5 [some (.ref (A 22 0 0)), some (.int (nI g)), some (.int (nI n)), some (.int (nI (z_px mv i))), some (.int (nI i))] [] w 0 0 := by
  intro m
  induction m with
  | zero =>
    intro i hm hi
    have : i = n := by omega
    subst this
    refine z_iload (pc := 5) dX6_lineOf_5 rfl ?_
    refine z_iload_n (pc := 7) dX6_lineOf_7 rfl ?_
    refine z_icmp_ge (pc := 8) (tgt := 37) dX6_lineOf_8 (by decide) (fun _ => ?_) (fun hn => absurd (nI_le (Nat.le_refl _) (by omega)) hn)
    refine z_iload_n (pc := 37) dX6_lineOf_37 rfl ?_
    refine z_iret (pc := 38) dX6_lineOf_38 rfl (⟨rfl, rfl⟩)
  | succ m ih =>
    intro i hm hi
    have ih := ih (i + 1) (by omega) (by omega)
    have h12 := hmv i (by omega)
    have hpx := z_px_lt (n := n) (fun i hi => (hmv i hi).2) i hi
    have e : (12 : Int32) * nI g + nI i = nI (12 * g + i) := by
      rw [show (12 : Int32) = nI 12 from rfl, z_nm, nI_add]
    refine z_iload (pc := 5) dX6_lineOf_5 rfl ?_
    refine z_iload_n (pc := 7) dX6_lineOf_7 rfl ?_
    refine z_icmp_ge (pc := 8) (tgt := 37) dX6_lineOf_8 (by decide) (fun hn => absurd hn (nI_ge (by omega) (by omega))) (fun _ => ?_)
    refine z_iload_n (pc := 11) dX6_lineOf_11 rfl ?_
    refine z_aload_n (pc := 12) dX6_lineOf_12 rfl (by first | rfl | exact z_isr_rf _) ?_
    refine gfX6_35 (pc := 13) rfl dX6_lineOf_13 (hM.k22) rfl ?_
    refine z_bipush_12 (pc := 16) dX6_lineOf_16 ?_
    refine z_iload_n (pc := 18) dX6_lineOf_18 rfl ?_
    refine z_imul (pc := 19) dX6_lineOf_19 ?_
    refine z_iload (pc := 20) dX6_lineOf_20 rfl ?_
    refine z_iadd (pc := 22) dX6_lineOf_22 ?_
    rw [e]
    refine z_iald (pc := 23) dX6_lineOf_23 (hM.k12) (vp_in_nI (by omega) (by omega)) ?_
    rw [nI_clamp (show 12 * g + i < 2 ^ 31 by omega), h12.1]
    refine z_iconst_2 (pc := 24) dX6_lineOf_24 ?_
    refine z_iload (pc := 25) dX6_lineOf_25 rfl ?_
    refine z_imul (pc := 27) dX6_lineOf_27 ?_
    refine z_ishl (pc := 28) dX6_lineOf_28 ?_
    refine z_ior (pc := 29) dX6_lineOf_29 ?_
    rw [z_or i (by omega) _ h12.2 _ hpx]
    refine z_istore3 (pc := 30) dX6_lineOf_30 ?_
    refine z_iinc4 (pc := 31) dX6_lineOf_31 ?_
    refine z_goto (pc := 34) (tgt := 5) dX6_lineOf_34 (by decide) ?_
    rw [nI_1]
    exact ih
theorem mX6_lineOf (hM : z_Mo G F A M w) {g n : Nat} {mv : Nat → Nat} (hg : g < 60) (h6 : n ≤ 6) (hmv : ∀ i, i < n → M 12 (12 * g + i) = nI (mv i) ∧ mv i < 4) : z_M G zX6_lineOf 1 [.ref (A 22 0 0), .int (nI g), .int (nI n)] w 0 0 (z_rp (.int (nI (z_px mv n))) w) z_nx := by
  refine z_M.of (by decide +kernel) rfl (by intro v hv; simp only [List.mem_cons, List.not_mem_nil, or_false] at hv; rcases hv with rfl | rfl | rfl <;> first | rfl | exact z_isr_cat (z_isr_rf _)) (Nat.le_of_ble_eq_true rfl) ?_
  show z_E _ zX6_lineOf _ _ 0 [some (.ref (A 22 0 0)), some (.int (nI g)), some (.int (nI n)), none, none] [] _ _ _
  refine z_iconst_0 (pc := 0) dX6_lineOf_0 ?_
  refine z_istore3 (pc := 1) dX6_lineOf_1 ?_
  refine z_iconst_0 (pc := 2) dX6_lineOf_2 ?_
  refine z_istore4 (pc := 3) dX6_lineOf_3 ?_
  exact iX6_lineOf hM hg h6 hmv n 0 rfl (Nat.zero_le _)
theorem iX6_havePlayed {QX} (hM : z_Mo G F A M w) (h6 : M 6 0 = 0 ∨ M 6 0 = 1) {e : Nat} (he : M 5 0 - M 6 0 = nI e) (h60 : e ≤ 60) (a b : Int32) : ∀ m i : Nat, e - i = m → i ≤ e → z_E G zX6_havePlayed 1 (z_mq G (z_rp (.int (z_b (z_mt M e a b))) w) QX) 5 [some (.ref (A 22 0 0)), some (.int a), some (.int b), some (.int (z_b (z_mt M i a b))), some (.int (nI i))] [] w 0 0 := by
  intro m
  induction m with
  | zero =>
    intro i hm hi
    have : i = e := by omega
    subst this
    refine z_iload (pc := 5) dX6_havePlayed_5 rfl ?_
    refine z_aload_n (pc := 7) dX6_havePlayed_7 rfl (by first | rfl | exact z_isr_rf _) ?_
    refine z_callVp (pc := 8) (mX6_ended hM h6) dX6_havePlayed_8 cwX6_134 okX6_ended rfl (hM.k22) rfl rfl (by omega) rfl (Nat.le_of_ble_eq_true rfl) ?_
    rw [he]
    refine z_icmp_ge (pc := 11) (tgt := 74) dX6_havePlayed_11 (by decide) (fun _ => ?_) (fun hn => absurd (nI_le (Nat.le_refl _) (by omega)) hn)
    refine z_iload_n (pc := 74) dX6_havePlayed_74 rfl ?_
    refine z_zret (pc := 75) dX6_havePlayed_75 rfl (z_b_01 _ ) ( ⟨rfl, rfl⟩)
  | succ m ih =>
    intro i hm hi
    have hin : i < e := by omega
    have hi3 : i < 2 ^ 31 := by omega
    have ih := ih (i + 1) (by omega) (by omega)
    refine z_iload (pc := 5) dX6_havePlayed_5 rfl ?_
    refine z_aload_n (pc := 7) dX6_havePlayed_7 rfl (by first | rfl | exact z_isr_rf _) ?_
    refine z_callVp (pc := 8) (mX6_ended hM h6) dX6_havePlayed_8 cwX6_134 okX6_ended rfl (hM.k22) rfl rfl (by omega) rfl (Nat.le_of_ble_eq_true rfl) ?_
    rw [he]
    refine z_icmp_ge (pc := 11) (tgt := 74) dX6_havePlayed_11 (by decide) (fun hn => absurd hn (nI_ge hin (by omega))) (fun _ => ?_)
    refine z_iload_n (pc := 14) dX6_havePlayed_14 rfl ?_
    have tt : z_mt M (i + 1) a b → z_E G zX6_havePlayed 1 (z_mq G (z_rp (.int (z_b (z_mt M e a b))) w) QX) 62 [some (.ref (A 22 0 0)), some (.int a), some (.int b), some (.int (z_b (z_mt M i a b))), some (.int (nI i))] [] w 0 0 := by
      intro h
      rw [z_b_t h] at ih
      refine z_iconst_1 (pc := 62) dX6_havePlayed_62 ?_
      refine z_goto (pc := 63) (tgt := 67) dX6_havePlayed_63 (by decide) ?_
      refine z_istore3 (pc := 67) dX6_havePlayed_67 ?_
      refine z_iinc4 (pc := 68) dX6_havePlayed_68 ?_
      refine z_goto (pc := 71) (tgt := 5) dX6_havePlayed_71 (by decide) ?_
      rw [nI_1]
      exact ih
    refine z_if_ne (pc := 15) (tgt := 62) dX6_havePlayed_15 (by decide) (fun hc => ?_) (fun hc => ?_)
    · exact tt (z_mt_s.2 (Or.inl (z_b_1 hc)))
    · have hno := z_b_0 hc
      have ff : ¬ ((M 8 i = a ∧ M 9 i = b) ∨ (M 8 i = b ∧ M 9 i = a)) → z_E G zX6_havePlayed 1 (z_mq G (z_rp (.int (z_b (z_mt M e a b))) w) QX) 66 [some (.ref (A 22 0 0)), some (.int a), some (.int b), some (.int (z_b (z_mt M i a b))), some (.int (nI i))] [] w 0 0 := by
        intro h
        rw [z_b_f (fun z => (z_mt_s.1 z).elim hno h)] at ih
        refine z_iconst_0 (pc := 66) dX6_havePlayed_66 ?_
        refine z_istore3 (pc := 67) dX6_havePlayed_67 ?_
        refine z_iinc4 (pc := 68) dX6_havePlayed_68 ?_
        refine z_goto (pc := 71) (tgt := 5) dX6_havePlayed_71 (by decide) ?_
        rw [nI_1]
        exact ih
      have two : ¬ (M 8 i = a ∧ M 9 i = b) → z_E G zX6_havePlayed 1 (z_mq G (z_rp (.int (z_b (z_mt M e a b))) w) QX) 40 [some (.ref (A 22 0 0)), some (.int a), some (.int b), some (.int (z_b (z_mt M i a b))), some (.int (nI i))] [] w 0 0 := by
        intro h
        refine z_aload_n (pc := 40) dX6_havePlayed_40 rfl (by first | rfl | exact z_isr_rf _) ?_
        refine gfX6_23 (pc := 41) rfl dX6_havePlayed_41 (hM.k22) rfl ?_
        refine z_iload (pc := 44) dX6_havePlayed_44 rfl ?_
        refine z_iald (pc := 46) dX6_havePlayed_46 (hM.k8) (vp_in_nI (by omega) (by omega)) ?_
        refine z_iload_n (pc := 47) dX6_havePlayed_47 rfl ?_
        rw [nI_clamp hi3]
        refine z_icmp_ne (pc := 48) (tgt := 66) dX6_havePlayed_48 (by decide) (fun hd => ?_) (fun hd => ?_)
        · exact ff (fun z => z.elim h (fun z => hd z.1))
        · refine z_aload_n (pc := 51) dX6_havePlayed_51 rfl (by first | rfl | exact z_isr_rf _) ?_
          refine gfX6_26 (pc := 52) rfl dX6_havePlayed_52 (hM.k22) rfl ?_
          refine z_iload (pc := 55) dX6_havePlayed_55 rfl ?_
          refine z_iald (pc := 57) dX6_havePlayed_57 (hM.k9) (vp_in_nI (by omega) (by omega)) ?_
          refine z_iload_n (pc := 58) dX6_havePlayed_58 rfl ?_
          rw [nI_clamp hi3]
          refine z_icmp_ne (pc := 59) (tgt := 66) dX6_havePlayed_59 (by decide) (fun hx => ?_) (fun hx => ?_)
          · exact ff (fun z => z.elim h (fun z => hx z.2))
          · exact tt (z_mt_s.2 (Or.inr (Or.inr ⟨hd, hx⟩)))
      refine z_aload_n (pc := 18) dX6_havePlayed_18 rfl (by first | rfl | exact z_isr_rf _) ?_
      refine gfX6_23 (pc := 19) rfl dX6_havePlayed_19 (hM.k22) rfl ?_
      refine z_iload (pc := 22) dX6_havePlayed_22 rfl ?_
      refine z_iald (pc := 24) dX6_havePlayed_24 (hM.k8) (vp_in_nI (by omega) (by omega)) ?_
      refine z_iload_n (pc := 25) dX6_havePlayed_25 rfl ?_
      rw [nI_clamp hi3]
      refine z_icmp_ne (pc := 26) (tgt := 40) dX6_havePlayed_26 (by decide) (fun hd => ?_) (fun hd => ?_)
      · exact two (fun z => hd z.1)
      · refine z_aload_n (pc := 29) dX6_havePlayed_29 rfl (by first | rfl | exact z_isr_rf _) ?_
        refine gfX6_26 (pc := 30) rfl dX6_havePlayed_30 (hM.k22) rfl ?_
        refine z_iload (pc := 33) dX6_havePlayed_33 rfl ?_
        refine z_iald (pc := 35) dX6_havePlayed_35 (hM.k9) (vp_in_nI (by omega) (by omega)) ?_
        refine z_iload_n (pc := 36) dX6_havePlayed_36 rfl ?_
        rw [nI_clamp hi3]
        refine z_icmp_eq (pc := 37) (tgt := 62) dX6_havePlayed_37 (by decide) (fun hx => ?_) (fun hx => ?_)
        · exact tt (z_mt_s.2 (Or.inr (Or.inl ⟨hd, hx⟩)))
        · exact two (fun z => hx z.2)
theorem mX6_havePlayed (hM : z_Mo G F A M w) (h6 : M 6 0 = 0 ∨ M 6 0 = 1) {e : Nat} (he : M 5 0 - M 6 0 = nI e) (h60 : e ≤ 60) (a b : Int32) : z_M G zX6_havePlayed 1 [.ref (A 22 0 0), .int a, .int b] w 0 0 (z_rp (.int (z_b (z_mt M e a b))) w) z_nx := by
  have := iX6_havePlayed (QX := z_nx) hM h6 he h60 a b e 0 rfl (Nat.zero_le _)
  rw [z_b_f (P := z_mt M 0 a b) (fun ⟨g, h1, _⟩ => absurd h1 (Nat.not_lt_zero _))] at this
  refine z_M.of (by decide +kernel) rfl (by intro v hv; simp only [List.mem_cons, List.not_mem_nil, or_false] at hv; rcases hv with rfl | rfl | rfl <;> first | rfl | exact z_isr_cat (z_isr_rf _)) (Nat.le_of_ble_eq_true rfl) ?_
  show z_E _ zX6_havePlayed _ _ 0 [some (.ref (A 22 0 0)), some (.int a), some (.int b), none, none] [] _ _ _
  refine z_iconst_0 (pc := 0) dX6_havePlayed_0 ?_
  refine z_istore3 (pc := 1) dX6_havePlayed_1 ?_
  refine z_iconst_0 (pc := 2) dX6_havePlayed_2 ?_
  refine z_istore4 (pc := 3) dX6_havePlayed_3 ?_
  exact this
theorem iX6_pointsOfGames {QX} {w0 : z_W} (hM : z_Mo G F A M w) (hf : z_fr F w0 w) (h6 : M 6 0 = 0 ∨ M 6 0 = 1) {e : Nat} (he : M 5 0 - M 6 0 = nI e) (h60 : e ≤ 60) {mc : Nat → Nat} {mv : Nat → Nat → Nat} (hmc : ∀ g, g < e → M 10 g = nI (mc g) ∧ mc g ≤ 12) (hmv : ∀ g, g < e → ∀ i, i < mc g → M 12 (12 * g + i) = nI (mv g i) ∧ mv g i < 4) {l n : Nat} (h1 : 1 ≤ n) (hn6 : n ≤ 6) (hl : l < 4 ^ n) : ∀ m i : Nat, e - i = m → i ≤ e → z_E G zX6_pointsOfGames 2 (z_mq G (z_sm G F A M w0 (some (.int (z_mp M mc mv l n e)))) QX) 13 [some (.ref (A 22 0 0)), some (.int (nI l)), some (.int (nI n)), some (.int (z_mp M mc mv l n i)), some (.int 1), some (.int (nI i))] [] w 0 0 := by
  have hp := z_p4 n (by omega)
  intro m
  induction m with
  | zero =>
    intro i hm hi
    have : i = e := by omega
    subst this
    refine z_iload (pc := 13) dX6_pointsOfGames_13 rfl ?_
    refine z_aload_n (pc := 15) dX6_pointsOfGames_15 rfl (by first | rfl | exact z_isr_rf _) ?_
    refine z_callVp (pc := 16) (mX6_ended hM h6) dX6_pointsOfGames_16 cwX6_134 okX6_ended rfl (hM.k22) rfl rfl (by omega) rfl (Nat.le_of_ble_eq_true rfl) ?_
    rw [he]
    refine z_icmp_ge (pc := 19) (tgt := 69) dX6_pointsOfGames_19 (by decide) (fun _ => ?_) (fun hn => absurd (nI_le (Nat.le_refl _) (by omega)) hn)
    refine z_iload_n (pc := 69) dX6_pointsOfGames_69 rfl ?_
    refine z_iret (pc := 70) dX6_pointsOfGames_70 rfl (⟨rfl, hM, hf⟩)
  | succ m ih =>
    intro i hm hi
    have hin : i < e := by omega
    have hi3 : i < 2 ^ 31 := by omega
    have ih := ih (i + 1) (by omega) (by omega)
    have hc10 := hmc i hin
    refine z_iload (pc := 13) dX6_pointsOfGames_13 rfl ?_
    refine z_aload_n (pc := 15) dX6_pointsOfGames_15 rfl (by first | rfl | exact z_isr_rf _) ?_
    refine z_callVp (pc := 16) (mX6_ended hM h6) dX6_pointsOfGames_16 cwX6_134 okX6_ended rfl (hM.k22) rfl rfl (by omega) rfl (Nat.le_of_ble_eq_true rfl) ?_
    rw [he]
    refine z_icmp_ge (pc := 19) (tgt := 69) dX6_pointsOfGames_19 (by decide) (fun hn => absurd hn (nI_ge hin (by omega))) (fun _ => ?_)
    refine z_iload (pc := 22) dX6_pointsOfGames_22 rfl ?_
    refine z_if_eq (pc := 24) (tgt := 69) dX6_pointsOfGames_24 (by decide) (fun hn => absurd hn ((by decide : ¬ (1 : Int32) = 0))) (fun _ => ?_)
    refine z_iload_n (pc := 27) dX6_pointsOfGames_27 rfl ?_
    refine z_aload_n (pc := 28) dX6_pointsOfGames_28 rfl (by first | rfl | exact z_isr_rf _) ?_
    refine gfX6_29 (pc := 29) rfl dX6_pointsOfGames_29 (hM.k22) rfl ?_
    refine z_iload (pc := 32) dX6_pointsOfGames_32 rfl ?_
    refine z_iald (pc := 34) dX6_pointsOfGames_34 (hM.k10) (vp_in_nI (by omega) (by omega)) ?_
    refine z_iload_n (pc := 35) dX6_pointsOfGames_35 rfl ?_
    rw [nI_clamp hi3, hc10.1]
    have ff : ¬ (n ≤ mc i ∧ z_px (mv i) n = l) → z_E G zX6_pointsOfGames 2 (z_mq G (z_sm G F A M w0 (some (.int (z_mp M mc mv l n e)))) QX) 60 [some (.ref (A 22 0 0)), some (.int (nI l)), some (.int (nI n)), some (.int (z_mp M mc mv l n i)), some (.int 1), some (.int (nI i))] [.int (z_mp M mc mv l n i)] w 0 0 := by
      intro h
      have e2 : z_mp M mc mv l n (i + 1) = z_mp M mc mv l n i := by
        rw [z_mp]; exact if_neg h
      rw [e2] at ih
      refine z_iconst_0 (pc := 60) dX6_pointsOfGames_60 ?_
      refine z_iadd (pc := 61) dX6_pointsOfGames_61 ?_
      rw [Int32.add_zero]
      refine z_istore3 (pc := 62) dX6_pointsOfGames_62 ?_
      refine z_iinc5 (pc := 63) dX6_pointsOfGames_63 ?_
      refine z_goto (pc := 66) (tgt := 13) dX6_pointsOfGames_66 (by decide) ?_
      rw [nI_1]
      exact ih
    refine z_icmp_lt (pc := 36) (tgt := 60) dX6_pointsOfGames_36 (by decide) (fun hd => ?_) (fun hd => ?_)
    · rw [nI_ltI (by omega) (by omega)] at hd
      exact ff (fun z => by omega)
    · rw [nI_ltI (by omega) (by omega)] at hd
      refine z_aload_n (pc := 39) dX6_pointsOfGames_39 rfl (by first | rfl | exact z_isr_rf _) ?_
      refine z_iload (pc := 40) dX6_pointsOfGames_40 rfl ?_
      refine z_iload_n (pc := 42) dX6_pointsOfGames_42 rfl ?_
      refine z_callVp (pc := 43) (mX6_lineOf hM (g := i) (n := n) (mv := mv i) (by omega) hn6 (fun k hk => hmv i hin k (by omega))) dX6_pointsOfGames_43 cwX6_118 okX6_lineOf rfl (hM.k22) rfl rfl (by omega) rfl (Nat.le_of_ble_eq_true rfl) ?_
      have hpx := z_px_lt (n := n) (fun k hk => (hmv i hin k (by omega)).2) n (Nat.le_refl _)
      refine z_iload_n (pc := 46) dX6_pointsOfGames_46 rfl ?_
      refine z_icmp_ne (pc := 47) (tgt := 60) dX6_pointsOfGames_47 (by decide) (fun hx => ?_) (fun hx => ?_)
      · exact ff (fun z => hx (by rw [z.2]))
      · have hx := nI_inj (by omega) (by omega) hx
        have e2 : z_mp M mc mv l n (i + 1) = z_mp M mc mv l n i + M 11 i := by
          rw [z_mp]; exact if_pos ⟨by omega, hx⟩
        rw [e2] at ih
        refine z_aload_n (pc := 50) dX6_pointsOfGames_50 rfl (by first | rfl | exact z_isr_rf _) ?_
        refine gfX6_32 (pc := 51) rfl dX6_pointsOfGames_51 (hM.k22) rfl ?_
        refine z_iload (pc := 54) dX6_pointsOfGames_54 rfl ?_
        refine z_iald (pc := 56) dX6_pointsOfGames_56 (hM.k11) (vp_in_nI (by omega) (by omega)) ?_
        rw [nI_clamp hi3]
        refine z_goto (pc := 57) (tgt := 61) dX6_pointsOfGames_57 (by decide) ?_
        refine z_iadd (pc := 61) dX6_pointsOfGames_61 ?_
        refine z_istore3 (pc := 62) dX6_pointsOfGames_62 ?_
        refine z_iinc5 (pc := 63) dX6_pointsOfGames_63 ?_
        refine z_goto (pc := 66) (tgt := 13) dX6_pointsOfGames_66 (by decide) ?_
        rw [nI_1]
        exact ih
theorem mX6_pointsOfGames (hM : z_Mo G F A M w) (h6 : M 6 0 = 0 ∨ M 6 0 = 1) {e : Nat} (he : M 5 0 - M 6 0 = nI e) (h60 : e ≤ 60) {mc : Nat → Nat} {mv : Nat → Nat → Nat} (hmc : ∀ g, g < e → M 10 g = nI (mc g) ∧ mc g ≤ 12) (hmv : ∀ g, g < e → ∀ i, i < mc g → M 12 (12 * g + i) = nI (mv g i) ∧ mv g i < 4) (x y : Int32) : z_M G zX6_pointsOfGames 2 [.ref (A 22 0 0), .int x, .int y] w 0 0 (z_sm G F A (z_sM M 21 0 (z_go (z_ln x y) True True)) w (some (.int (z_if (z_ln x y) (z_mp M mc mv x.toNatClampNeg y.toNatClampNeg e) 0)))) z_nx := by
  refine z_M.of (by decide +kernel) rfl (by intro v hv; simp only [List.mem_cons, List.not_mem_nil, or_false] at hv; rcases hv with rfl | rfl | rfl <;> first | rfl | exact z_isr_cat (z_isr_rf _)) (Nat.le_of_ble_eq_true rfl) ?_
  show z_E _ zX6_pointsOfGames _ _ 0 [some (.ref (A 22 0 0)), some (.int x), some (.int y), none, none, none] [] _ _ _
  refine z_iconst_0 (pc := 0) dX6_pointsOfGames_0 ?_
  refine z_istore3 (pc := 1) dX6_pointsOfGames_1 ?_
  refine z_aload_n (pc := 2) dX6_pointsOfGames_2 rfl (by first | rfl | exact z_isr_rf _) ?_
  refine z_iload_n (pc := 3) dX6_pointsOfGames_3 rfl ?_
  refine z_iload_n (pc := 4) dX6_pointsOfGames_4 rfl ?_
  refine z_callV (pc := 5) (mX6_asks hM x y) dX6_pointsOfGames_5 cwX6_141 okX6_asks rfl (hM.k22) rfl rfl (by omega) rfl (Nat.le_of_ble_eq_true rfl) (by omega) (by omega) (fun _ _ h => h.elim) (fun v wN hN => ?_)
  obtain ⟨rfl, hM2, hf2⟩ := hN
  refine z_istore4 (pc := 8) dX6_pointsOfGames_8 ?_
  refine z_iconst_0 (pc := 10) dX6_pointsOfGames_10 ?_
  refine z_istore5 (pc := 11) dX6_pointsOfGames_11 ?_
  by_cases hln : z_ln x y
  · rw [z_b_t hln, z_if_t hln]
    have hln2 := hln
    obtain ⟨l, n, h1, hn6, hl, rfl, rfl⟩ := hln2
    have hp := z_p4 n (by omega)
    rw [nI_clamp (show l < 2 ^ 31 by omega), nI_clamp (show n < 2 ^ 31 by omega)]
    have := iX6_pointsOfGames (QX := z_nx) hM2 hf2 h6 he h60 hmc hmv h1 hn6 hl e 0 rfl (Nat.zero_le _)
    have e2 : ∀ v, z_mp (z_sM M 21 0 v) mc mv l n e = z_mp M mc mv l n e := by
      intro v
      generalize e = k
      induction k with
      | zero => rfl
      | succ k ih =>
        rw [z_mp, z_mp, ih]
        rfl
    rw [e2] at this
    exact this
  · rw [z_b_f hln, z_if_f hln]
    refine z_iload (pc := 13) dX6_pointsOfGames_13 rfl ?_
    refine z_aload_n (pc := 15) dX6_pointsOfGames_15 rfl (by first | rfl | exact z_isr_rf _) ?_
    refine z_callVp (pc := 16) (mX6_ended hM2 h6) dX6_pointsOfGames_16 cwX6_134 okX6_ended rfl (hM2.k22) rfl rfl (by omega) rfl (Nat.le_of_ble_eq_true rfl) ?_
    refine z_icmp_ge (pc := 19) (tgt := 69) dX6_pointsOfGames_19 (by decide) (fun hc => ?_) (fun hc => ?_)
    · refine z_iload_n (pc := 69) dX6_pointsOfGames_69 rfl ?_
      refine z_iret (pc := 70) dX6_pointsOfGames_70 rfl (⟨rfl, hM2, hf2⟩)
    · refine z_iload (pc := 22) dX6_pointsOfGames_22 rfl ?_
      refine z_if_eq (pc := 24) (tgt := 69) dX6_pointsOfGames_24 (by decide) (fun _ => ?_) (fun hn => absurd (rfl) hn)
      refine z_iload_n (pc := 69) dX6_pointsOfGames_69 rfl ?_
      refine z_iret (pc := 70) dX6_pointsOfGames_70 rfl (⟨rfl, hM2, hf2⟩)
end MG

