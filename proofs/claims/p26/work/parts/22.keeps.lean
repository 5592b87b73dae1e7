/-! puzzles made, the book kept -/
def z_NZ (N : z_TN) : z_TN := z_sN (z_sN N 8 0 (N 2 0 + 1)) 2 0 (N 2 0 + 1)
def z_IZ (I : z_TI) (z : Nat) (x gm : Int32) : z_TI := z_sF (z_sF I 9 z (fun _ => x)) 10 z (fun _ => gm)
section PZ
variable {G : z_G} {F : Nat → Prop} {A : z_TA} {I : z_TI} {N : z_TN} {O : z_TO} {B : z_TB} {w : z_W}
def z_hp (I : z_TI) (N : z_TN) (x : Int32) : Prop := ∃ z, z < N 8 0 ∧ I 9 z 0 = x
theorem mX5_addPuzzle (hC : z_C G F A I N O B w) (h8 : N 8 0 = N 2 0) (h40 : N 2 0 ≤ 40) (x gm : Int32) : z_M G zX5_addPuzzle 2 [.ref (A 0 0 0), .int x, .int gm] w 1 3 (fun v w' => (v = some (.int 0) ∧ w = w' ∧ (¬ N 2 0 < 40 ∨ z_hp I N x)) ∨ (v = some (.int 1) ∧ N 2 0 < 40 ∧ ¬ z_hp I N x ∧ z_fr F w w' ∧ ∃ q, z_C G F (z_sA A 11 (N 2 0) 0 q) (z_IZ I (N 2 0) x gm) (z_NZ N) O B w')) z_nx := by
  have hz3 : N 2 0 < 2 ^ 31 := by omega
  refine z_M.of (by decide +kernel) rfl (by intro v hv; simp only [List.mem_cons, List.not_mem_nil, or_false] at hv; rcases hv with rfl | rfl | rfl <;> first | rfl | exact z_isr_cat (z_isr_rf _)) (Nat.le_of_ble_eq_true rfl) ?_
  show z_E _ zX5_addPuzzle _ _ 0 [some (.ref (A 0 0 0)), some (.int x), some (.int gm), none] [] _ _ _
  refine z_aload_n (pc := 0) dX5_addPuzzle_0 rfl (by first | rfl | exact z_isr_rf _) ?_
  refine gfX5_136 (pc := 1) rfl dX5_addPuzzle_1 (hC.k0) rfl ?_
  refine z_istore3 (pc := 4) dX5_addPuzzle_4 ?_
  refine z_iload_n (pc := 5) dX5_addPuzzle_5 rfl ?_
  refine z_if_lt (pc := 6) (tgt := 26) dX5_addPuzzle_6 (by decide) (fun hn => absurd hn (nI_pos hz3)) (fun _ => ?_)
  refine z_iload_n (pc := 9) dX5_addPuzzle_9 rfl ?_
  refine z_aload_n (pc := 10) dX5_addPuzzle_10 rfl (by first | rfl | exact z_isr_rf _) ?_
  refine gfX5_23 (pc := 11) rfl dX5_addPuzzle_11 (hC.k0) rfl ?_
  refine z_alen (pc := 14) dX5_addPuzzle_14 (hC.k3) rfl rfl ?_
  refine z_icmp_ge (pc := 15) (tgt := 26) dX5_addPuzzle_15 (by decide) (fun hc => ?_) (fun hc => ?_)
  · rw [nI_leI (by omega) hz3] at hc
    refine z_iconst_0 (pc := 26) dX5_addPuzzle_26 ?_
    refine z_zret (pc := 27) dX5_addPuzzle_27 rfl (Or.inl rfl ) ( Or.inl ⟨rfl, rfl, Or.inl (by omega)⟩)
  · rw [nI_leI (by omega) hz3] at hc
    haveI : Decidable (∃ z, z < N 8 0 ∧ I 9 z 0 = x) := Classical.propDecidable _
    refine z_aload_n (pc := 18) dX5_addPuzzle_18 rfl (by first | rfl | exact z_isr_rf _) ?_
    refine z_iload_n (pc := 19) dX5_addPuzzle_19 rfl ?_
    refine z_callVp (pc := 20) (mX5_hasPuzzleFor hC (x := x) (by omega)) dX5_addPuzzle_20 cwX5_237 okX5_hasPuzzleFor rfl (hC.k0) rfl rfl (by omega) rfl (Nat.le_of_ble_eq_true rfl) ?_
    by_cases hh : ∃ z, z < N 8 0 ∧ I 9 z 0 = x
    · rw [if_pos hh]
      refine z_if_eq (pc := 23) (tgt := 28) dX5_addPuzzle_23 (by decide) (fun hn => absurd hn ((by decide : ¬ (1 : Int32) = 0))) (fun _ => ?_)
      refine z_iconst_0 (pc := 26) dX5_addPuzzle_26 ?_
      refine z_zret (pc := 27) dX5_addPuzzle_27 rfl (Or.inl rfl ) ( Or.inl ⟨rfl, rfl, Or.inr hh⟩)
    · rw [if_neg hh]
      refine z_if_eq (pc := 23) (tgt := 28) dX5_addPuzzle_23 (by decide) (fun _ => ?_) (fun hn => absurd (rfl) hn)
      refine z_aload_n (pc := 28) dX5_addPuzzle_28 rfl (by first | rfl | exact z_isr_rf _) ?_
      refine gfX5_23 (pc := 29) rfl dX5_addPuzzle_29 (hC.k0) rfl ?_
      refine z_iload_n (pc := 32) dX5_addPuzzle_32 rfl ?_
      refine nwX5_21 (pc := 33) rfl dX5_addPuzzle_33 (by omega) (by omega) (fun q hq => ?_)
      refine z_dup (pc := 36) dX5_addPuzzle_36 (by first | rfl | exact z_isr_cat (z_isr_rf _)) ?_
      refine z_iload_n (pc := 37) dX5_addPuzzle_37 rfl ?_
      refine z_iload_n (pc := 38) dX5_addPuzzle_38 rfl ?_
      refine z_callI (pc := 39) (mX4_init (x := x) (g := gm) (z_upS w q _)) dX5_addPuzzle_39 cwX5_240 okX4_init rfl (by omega) rfl (Nat.le_of_ble_eq_true rfl) (by omega) (by omega) (fun _ _ h => h.elim) (fun v wN hN => ?_)
      obtain ⟨rfl, wq, hk⟩ := hN
      obtain ⟨hT, hf⟩ := hC.growZ h8.symm hq wq (hk.old hq)
      have e11 : z_sA A 11 (N 2 0) 0 q 11 (N 2 0) 0 = q := z_sA_s _ _ _ _ _
      refine z_aastZ (pc := 42) dX5_addPuzzle_42 (hT.at (k := 3) (i := 0) (j := 0) (Or.inl ⟨rfl, rfl⟩)) (wq) (vp_in_nI (by omega) (by omega)) ?_
      rw [nI_clamp hz3]
      have hC2 : z_C G F (z_sA A 11 (N 2 0) 0 q) (z_IZ I (N 2 0) x gm) (z_sN N 8 0 (N 2 0 + 1)) O B (z_up wN (A 3 0 0) (.inl (G.2.1 6, 40, z_rs (va_up (fun z => if z < N 8 0 then some (z_sA A 11 (N 2 0) 0 q 11 z 0) else none) (N 2 0) (some q))))) ∧ z_fr F wN (z_up wN (A 3 0 0) (.inl (G.2.1 6, 40, z_rs (va_up (fun z => if z < N 8 0 then some (z_sA A 11 (N 2 0) 0 q 11 z 0) else none) (N 2 0) (some q))))) := by
        obtain ⟨h1, h2⟩ := z_tw.put (ct' := z_ct G (z_sA A 11 (N 2 0) 0 q) (z_IZ I (N 2 0) x gm) (z_sN N 8 0 (N 2 0 + 1)) O B) hT (k := 3) (i := 0) (j := 0) (e := .inl (G.2.1 6, 40, z_rs (va_up (fun z => if z < N 8 0 then some (z_sA A 11 (N 2 0) 0 q 11 z 0) else none) (N 2 0) (some q)))) (Or.inl ⟨rfl, rfl⟩) (by
          show (Sum.inl (G.2.1 6, 40, z_rs (fun z => if z < (z_sN N 8 0 (N 2 0 + 1)) 8 0 then some (z_sA A 11 (N 2 0) 0 q 11 z 0) else none)) : va_E) = _
          rw [z_fill (n := N 8 0) (by rw [z_sN_s, h8]) (show (fun z => some (z_sA A 11 (N 2 0) 0 q 11 z 0)) (N 8 0) = some q by rw [h8]; exact congrArg some e11), h8]) (by
          intro k' i' j' hl hn
          unfold z_ct
          split <;> first
            | rfl
            | (rcases hl with hl | ⟨h1, -⟩
               · exact absurd ⟨rfl, hl.1, hl.2⟩ hn
               · omega))
        refine ⟨z_tw.re h1 ?_ (fun _ _ _ _ => rfl), h2⟩
        intro k i j hl
        unfold z_lv at hl ⊢
        have e7 : z_sN N 8 0 (N 2 0 + 1) 8 0 = N 2 0 + 1 := z_sN_s _ _ _ _
        split at hl <;> first
          | exact Or.inl hl
          | (rw [e7] at hl
             by_cases h : i = N 2 0
             · exact Or.inr ⟨rfl, h, hl.2⟩
             · exact Or.inl ⟨by omega, hl.2⟩)
      refine z_genC (hC2) (fun w3 hC3 hf3 => ?_)
      refine z_aload_n (pc := 43) dX5_addPuzzle_43 rfl (by first | rfl | exact z_isr_rf _) ?_
      refine z_iload_n (pc := 44) dX5_addPuzzle_44 rfl ?_
      refine z_iconst_1 (pc := 45) dX5_addPuzzle_45 ?_
      refine z_iadd (pc := 46) dX5_addPuzzle_46 ?_
      rw [nI_1]
      refine pfX5_136 (pc := 47) rfl dX5_addPuzzle_47 (hC3.k0) (Nat.le_of_ble_eq_true rfl) ?_
      refine z_genC (hC3.pN2 (N 2 0 + 1)) (fun w4 hC4 hf4 => ?_)
      refine z_iconst_1 (pc := 50) dX5_addPuzzle_50 ?_
      refine z_zret (pc := 51) dX5_addPuzzle_51 rfl (Or.inr rfl ) ( Or.inr ⟨rfl, by omega, hh, hf.tr (hf3.tr hf4), q, hC4⟩)
/-- the state behind m more moves of a game, from the i-th on, at the position x; and how many were made -/
noncomputable def z_mk (gm : Int32) (mv : Nat → Int32) : Nat → z_TI → z_TN → Nat → Int32 → Int32 → z_TI × z_TN × Int32
  | 0, I, N, _, _, c => (I, N, c)
  | m + 1, I, N, i, x, c => @ite _ (blC x (mv i) = 0 ∨ ¬ N 2 0 < 40 ∨ z_hp I N x) (Classical.propDecidable _) (z_mk gm mv m I N (i + 1) (nx x (mv i)) c) (z_mk gm mv m (z_IZ I (N 2 0) x gm) (z_NZ N) (i + 1) (nx x (mv i)) (c + 1))
theorem iX5_makePuzzles {QX} {x7 : z_TA} {g : Nat} {gm : Int32} {mv : Nat → Int32} {w0 : z_W} {I0 : z_TI} {N0 : z_TN} {a9 a0 : Nat} {n : Nat} (h12 : n ≤ 12) : ∀ m i : Nat, n - i = m → i ≤ n → ∀ (A : z_TA) (I : z_TI) (N : z_TN) (w : z_W) (x c : Int32) (x6 : Option Value), z_C G F A I N O B w → z_fr F w0 w → A 9 g 0 = a9 → A 0 0 0 = a0 → N 8 0 = N 2 0 → N 2 0 ≤ 40 → g < N 7 0 → N 5 g = n → I 8 g = mv → z_mk gm mv m I N i x c = z_mk gm mv n I0 N0 0 1 0 → (∀ k, k ≠ 11 → A k = x7 k) →
    z_E G zX5_makePuzzles 4 (z_mq G (fun v w' => v = some (.int (z_mk gm mv n I0 N0 0 1 0).2.2) ∧ z_fr F w0 w' ∧ ∃ A', (∀ k, k ≠ 11 → A' k = x7 k) ∧ z_C G F A' (z_mk gm mv n I0 N0 0 1 0).1 (z_mk gm mv n I0 N0 0 1 0).2.1 O B w') QX) 8 [some (.ref a0), some (.ref a9), some (.int gm), some (.int c), some (.int x), some (.int (nI i)), x6] [] w (12 - i) (3 * (12 - i)) := by
  intro m
  induction m with
  | zero =>
    intro i hm hi A I N w x c x6 hC hf h9 h0 h82 h40 hg hn hmv hmk hA
    have : i = n := by omega
    subst this
    subst h9
    refine z_iload (pc := 8) dX5_makePuzzles_8 rfl ?_
    refine z_aload_n (pc := 10) dX5_makePuzzles_10 rfl (by first | rfl | exact z_isr_rf _) ?_
    refine gfX5_228 (pc := 11) rfl dX5_makePuzzles_11 (hC.k9 hg) rfl ?_
    refine z_icmp_ge (pc := 14) (tgt := 63) dX5_makePuzzles_14 (by decide) (fun _ => ?_) (fun hn => absurd (nI_le (by omega) (by omega)) hn)
    refine z_iload_n (pc := 63) dX5_makePuzzles_63 rfl ?_
    rw [← hmk]
    refine z_iret (pc := 64) dX5_makePuzzles_64 rfl (⟨rfl, hf, A, hA, hC⟩)
  | succ m ih =>
    intro i hm hi A I N w x c x6 hC hf h9 h0 h82 h40 hg hn hmv hmk hA
    have hin : i < n := by omega
    have hi12 : i < 12 := by omega
    subst h9
    subst h0
    refine z_iload (pc := 8) dX5_makePuzzles_8 rfl ?_
    refine z_aload_n (pc := 10) dX5_makePuzzles_10 rfl (by first | rfl | exact z_isr_rf _) ?_
    refine gfX5_228 (pc := 11) rfl dX5_makePuzzles_11 (hC.k9 hg) rfl ?_
    rw [hn]
    refine z_icmp_ge (pc := 14) (tgt := 63) dX5_makePuzzles_14 (by decide) (fun hn => absurd hn (nI_ge hin (by omega))) (fun _ => ?_)
    refine z_aload_n (pc := 17) dX5_makePuzzles_17 rfl (by first | rfl | exact z_isr_rf _) ?_
    refine z_iload (pc := 18) dX5_makePuzzles_18 rfl ?_
    refine z_callVp (pc := 20) (mX1_moveAt hC hg hi12) dX5_makePuzzles_20 cwX5_231 okX1_moveAt rfl (hC.k9 hg) rfl rfl (by omega) rfl (Nat.le_of_ble_eq_true rfl) ?_
    rw [hmv]
    refine z_istore6 (pc := 23) dX5_makePuzzles_23 ?_
    refine z_iload (pc := 25) dX5_makePuzzles_25 rfl ?_
    refine z_iload (pc := 27) dX5_makePuzzles_27 rfl ?_
    refine z_callSp (pc := 29) (mX5_isBlunder G w x (mv i)) dX5_makePuzzles_29 cwX5_99 okX5_isBlunder rfl (by omega) rfl (Nat.le_of_ble_eq_true rfl) ?_
    have hnext : ∀ (A2 : z_TA) (I2 : z_TI) (N2 : z_TN) (w2 : z_W) (c2 : Int32) (k2 n2 : Nat), 12 - (i + 1) ≤ k2 → 3 * (12 - (i + 1)) ≤ n2 → z_C G F A2 I2 N2 O B w2 → z_fr F w0 w2 → A2 9 g 0 = A 9 g 0 → A2 0 0 0 = A 0 0 0 → N2 8 0 = N2 2 0 → N2 2 0 ≤ 40 → g < N2 7 0 → N2 5 g = n → I2 8 g = mv → z_mk gm mv m I2 N2 (i + 1) (nx x (mv i)) c2 = z_mk gm mv n I0 N0 0 1 0 → (∀ k, k ≠ 11 → A2 k = x7 k) → z_E G zX5_makePuzzles 4 (z_mq G (fun v w' => v = some (.int (z_mk gm mv n I0 N0 0 1 0).2.2) ∧ z_fr F w0 w' ∧ ∃ A', (∀ k, k ≠ 11 → A' k = x7 k) ∧ z_C G F A' (z_mk gm mv n I0 N0 0 1 0).1 (z_mk gm mv n I0 N0 0 1 0).2.1 O B w') QX) 48 [some (.ref (A 0 0 0)), some (.ref (A 9 g 0)), some (.int gm), some (.int c2), some (.int x), some (.int (nI i)), some (.int (mv i))] [] w2 k2 n2 := by
      intro A2 I2 N2 w2 c2 k2 n2 hk hn2 hC2 hf2 e9 e0 e8 e40 eg en em emk hA2
      refine z_iload (pc := 48) dX5_makePuzzles_48 rfl ?_
      refine z_iload (pc := 50) dX5_makePuzzles_50 rfl ?_
      refine z_callSp (pc := 52) (mX5_positionAfter G w2 x (mv i)) dX5_makePuzzles_52 cwX5_41 okX5_positionAfter rfl (by omega) rfl (Nat.le_of_ble_eq_true rfl) ?_
      refine z_istore4 (pc := 55) dX5_makePuzzles_55 ?_
      refine z_iinc5 (pc := 57) dX5_makePuzzles_57 ?_
      refine z_goto (pc := 60) (tgt := 8) dX5_makePuzzles_60 (by decide) ?_
      rw [nI_1]
      exact z_E.mono hk hn2 (ih (i + 1) (by omega) (by omega) A2 I2 N2 w2 _ c2 _ hC2 hf2 e9 e0 e8 e40 eg en em emk hA2)
    by_cases hb : blC x (mv i) = 0
    · rw [hb]
      refine z_if_eq (pc := 32) (tgt := 48) dX5_makePuzzles_32 (by decide) (fun _ => ?_) (fun hn => absurd (rfl) hn)
      exact hnext A I N w c _ _ (by omega) (by omega) hC hf rfl rfl h82 h40 hg hn hmv (by rw [← hmk]; show _ = z_mk gm mv (m + 1) I N i x c; rw [z_mk, if_pos (Or.inl hb)]) hA
    · refine z_if_eq (pc := 32) (tgt := 48) dX5_makePuzzles_32 (by decide) (fun hn => absurd hn (hb)) (fun _ => ?_)
      refine z_aload_n (pc := 35) dX5_makePuzzles_35 rfl (by first | rfl | exact z_isr_rf _) ?_
      refine z_iload (pc := 36) dX5_makePuzzles_36 rfl ?_
      refine z_iload_n (pc := 38) dX5_makePuzzles_38 rfl ?_
      refine z_callV (pc := 39) (mX5_addPuzzle hC h82 h40 x gm) dX5_makePuzzles_39 cwX5_234 okX5_addPuzzle rfl (hC.k0) rfl rfl (by omega) rfl (Nat.le_of_ble_eq_true rfl) (by omega) (by omega) (fun _ _ h => h.elim) (fun v wN hN => ?_)
      rcases hN with ⟨rfl, rfl, hN⟩ | ⟨rfl, hlt, hh, hf2, q, hC2⟩
      · refine z_if_eq (pc := 42) (tgt := 48) dX5_makePuzzles_42 (by decide) (fun _ => ?_) (fun hn => absurd (rfl) hn)
        exact hnext A I N w c _ _ (by omega) (by omega) hC hf rfl rfl h82 h40 hg hn hmv (by rw [← hmk]; show _ = z_mk gm mv (m + 1) I N i x c; rw [z_mk, if_pos (Or.inr hN)]) hA
      · refine z_if_eq (pc := 42) (tgt := 48) dX5_makePuzzles_42 (by decide) (fun hn => absurd hn ((by decide : ¬ (1 : Int32) = 0))) (fun _ => ?_)
        refine z_iinc3 (pc := 45) dX5_makePuzzles_45 ?_
        refine hnext _ _ _ wN (c + 1) _ _ (by omega) (by omega) hC2 (hf.tr hf2) rfl rfl ?_ ?_ hg hn hmv (by rw [← hmk]; show _ = z_mk gm mv (m + 1) I N i x c; rw [z_mk, if_neg (by rintro (h | h | h); exact hb h; exact h hlt; exact hh h)]) (fun k hk => by rw [z_sA_k _ _ _ _ hk]; exact hA k hk)
        · unfold z_NZ
          rw [z_sN_s, z_sN_f _ _ _ (by decide), z_sN_s]
        · unfold z_NZ
          rw [z_sN_s]; omega
theorem mX5_makePuzzles (hC : z_C G F A I N O B w) (hS : z_S N O B) {g : Nat} (gm : Int32) (hg : g < N 7 0) : z_M G zX5_makePuzzles 4 [.ref (A 0 0 0), .ref (A 9 g 0), .int gm] w 12 36 (fun v w' => v = some (.int (z_mk gm (I 8 g) (N 5 g) I N 0 1 0).2.2) ∧ z_fr F w w' ∧ ∃ A', (∀ k, k ≠ 11 → A' k = A k) ∧ z_C G F A' (z_mk gm (I 8 g) (N 5 g) I N 0 1 0).1 (z_mk gm (I 8 g) (N 5 g) I N 0 1 0).2.1 O B w') z_nx := by
  refine z_M.of (by decide +kernel) rfl (by intro v hv; simp only [List.mem_cons, List.not_mem_nil, or_false] at hv; rcases hv with rfl | rfl | rfl <;> first | rfl | exact z_isr_cat (z_isr_rf _)) (Nat.le_of_ble_eq_true rfl) ?_
  show z_E _ zX5_makePuzzles _ _ 0 [some (.ref (A 0 0 0)), some (.ref (A 9 g 0)), some (.int gm), none, none, none, none] [] _ _ _
  refine z_iconst_0 (pc := 0) dX5_makePuzzles_0 ?_
  refine z_istore3 (pc := 1) dX5_makePuzzles_1 ?_
  refine z_iconst_1 (pc := 2) dX5_makePuzzles_2 ?_
  refine z_istore4 (pc := 3) dX5_makePuzzles_3 ?_
  refine z_iconst_0 (pc := 5) dX5_makePuzzles_5 ?_
  refine z_istore5 (pc := 6) dX5_makePuzzles_6 ?_
  exact iX5_makePuzzles (hS.2.2.2.2.2.2.1 g (by rw [← hS.2.1]; exact hg)).2.2 _ 0 rfl (Nat.zero_le _) A I N w 1 0 _ hC z_fr.rf rfl rfl hS.2.2.1 hS.2.2.2.2.2.1 hg rfl rfl rfl (fun _ _ => rfl)
end PZ

