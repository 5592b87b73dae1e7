/-! the puzzles' words -/
theorem z_shv : ∀ r, r < 20 → ((nI r &&& 31).toBitVec.smod 32).toNat = r := by decide +kernel
theorem z_bit {T r : Nat} (hT : T < 2 ^ 20) (hr : r < 20) : (nI T >>> (nI r &&& 31)) &&& 1 = nI (T / 2 ^ r % 2) := by
  rw [pk_shrN (by omega) _ r (z_shv r hr), pk_andN (Nat.lt_of_le_of_lt (Nat.div_le_self _ _) (by omega)) 1 (by decide)]
/-- the law's own book of tries -/
def z_tr (I : z_TI) (N : z_TN) (fp : Nat → Int32) : Prop := ∃ T : Nat → Nat, (∀ i, i < 16 → fp i = nI (T i) ∧ T i < 2 ^ 20) ∧ (∀ i, 2 * N 0 0 ≤ i → i < 16 → T i = 0) ∧ ∀ p, p < N 0 0 → ∀ z, z < 40 → (T (2 * p + z / 20) / 2 ^ (z % 20) % 2 = 1 ↔ I 4 p z ≠ 0)
theorem z_of_s {I : z_TI} {p nz : Nat} : ∀ (K : Nat), (z_of I p nz K = none → ∀ k, k < K → k < nz → I 4 p k ≠ 0) ∧ ∀ f, z_of I p nz K = some f → f < K ∧ f < nz ∧ I 4 p f = 0 ∧ ∀ k, k < K → k < nz → I 4 p k = 0 → ¬ I 3 p (z_th I k) < I 3 p (z_th I f) ∧ (I 3 p (z_th I k) = I 3 p (z_th I f) → ¬ z_th I k < z_th I f ∧ (z_th I k = z_th I f → f ≤ k))
  | 0 => ⟨fun _ k hk => absurd hk (Nat.not_lt_zero _), fun f h => by cases h⟩
  | K + 1 => by
    have ih := z_of_s (I := I) (p := p) (nz := nz) K
    rw [z_of]
    by_cases q : K < nz ∧ I 4 p K = 0 ∧ (∀ f, z_of I p nz K = some f → I 3 p (z_th I K) < I 3 p (z_th I f) ∨ (I 3 p (z_th I K) = I 3 p (z_th I f) ∧ z_th I K < z_th I f))
    · rw [if_pos q]
      refine ⟨fun h => (by cases h), fun f h => ?_⟩
      have e : K = f := Option.some.inj h
      rw [← e]
      refine ⟨Nat.lt_succ_self _, q.1, q.2.1, fun k hk hkn hk4 => ?_⟩
      by_cases r : k = K
      · rw [r]
        exact ⟨Int32.lt_irrefl, fun _ => ⟨Nat.lt_irrefl _, fun _ => Nat.le_refl _⟩⟩
      · cases hf : z_of I p nz K with
        | none => exact absurd hk4 (ih.1 hf k (by omega) hkn)
        | some a =>
          obtain ⟨g1, g2, g3, g4⟩ := ih.2 a hf
          obtain ⟨h1, h2⟩ := g4 k (by omega) hkn hk4
          rw [Int32.lt_iff_toInt_lt] at h1 ⊢
          rw [← Int32.toInt_inj] at h2 ⊢
          rcases q.2.2 a hf with z | ⟨z, z2⟩
          · rw [Int32.lt_iff_toInt_lt] at z
            exact ⟨by omega, fun e => by omega⟩
          · rw [← Int32.toInt_inj] at z
            refine ⟨by omega, fun e => ?_⟩
            have := h2 (by omega)
            exact ⟨by omega, fun e2 => by omega⟩
    · rw [if_neg q]
      refine ⟨fun h k hk hkn => ?_, fun f h => ?_⟩
      · by_cases r : k = K
        · intro h4
          rw [r] at hkn h4
          exact q ⟨hkn, h4, fun f hf => by rw [h] at hf; cases hf⟩
        · exact ih.1 h k (by omega) hkn
      · obtain ⟨g1, g2, g3, g4⟩ := ih.2 f h
        refine ⟨by omega, g2, g3, fun k hk hkn hk4 => ?_⟩
        by_cases r : k = K
        · rw [r] at hkn hk4 ⊢
          have q2 : ¬ (I 3 p (z_th I K) < I 3 p (z_th I f) ∨ (I 3 p (z_th I K) = I 3 p (z_th I f) ∧ z_th I K < z_th I f)) := fun z => q ⟨hkn, hk4, fun f' hf' => by rw [h] at hf'; cases hf'; exact z⟩
          exact ⟨fun z => q2 (Or.inl z), fun e => ⟨fun z => q2 (Or.inr ⟨e, z⟩), fun _ => by omega⟩⟩
        · exact g4 k (by omega) hkn hk4
section LD
variable {G : z_G} {F : Nat → Prop} {a0 ap ag : Nat} {ws w : z_W} {I : z_TI} {N : z_TN} {oc : Option Nat} {B : z_TB} {fp fg : Nat → Int32}
theorem iL_puzD (hV : z_V G F a0 ws I N oc B w) {Z : z_Gq} {k its : Nat} (hk : k < N 2 0) (hits : I 9 k 0 = nI its) (hd : ∀ n, n < k → I 9 n 0 ≠ I 9 k 0) {x1 x2 x8 x9 x10 : Option Value} {ck sk : Nat} (kk : ∀ x7, z_E G zL_puzzles 9 Z 124 [some (.ref a0), x1, x2, some (.int (nI (N 2 0))), some (.int (nI k)), some (.int (nI its)), some (.int 1), x7, x8, x9, x10] [] w ck sk) : ∀ m n : Nat, k - n = m → n ≤ k → ∀ ck' sk', ck + m ≤ ck' → sk + 6 * m ≤ sk' → z_E G zL_puzzles 9 Z 88 [some (.ref a0), x1, x2, some (.int (nI (N 2 0))), some (.int (nI k)), some (.int (nI its)), some (.int 1), some (.int (nI n)), x8, x9, x10] [] w ck' sk' := by
  have hn := hV.n
  intro m
  induction m with
  | zero =>
    intro n hm hnk ck' sk' h1 h2
    refine z_iload (pc := 88) dL_puzzles_88 rfl ?_
    refine z_iload (pc := 90) dL_puzzles_90 rfl ?_
    refine z_icmp_ge (pc := 92) (tgt := 124) dL_puzzles_92 (by decide) (fun _ => ?_) (fun hn => absurd (nI_le (by omega) (by omega)) hn)
    exact z_E.mono (by omega) (by omega) (kk _)
  | succ m ih =>
    intro n hm hnk ck' sk' h1 h2
    refine z_iload (pc := 88) dL_puzzles_88 rfl ?_
    refine z_iload (pc := 90) dL_puzzles_90 rfl ?_
    refine z_icmp_ge (pc := 92) (tgt := 124) dL_puzzles_92 (by decide) (fun hn => absurd hn (nI_ge (by omega) (by omega))) (fun _ => ?_)
    refine z_iload (pc := 95) dL_puzzles_95 rfl ?_
    refine z_if_eq (pc := 97) (tgt := 115) dL_puzzles_97 (by decide) (fun hn => absurd hn (by decide)) (fun _ => ?_)
    refine z_aload_n (pc := 100) dL_puzzles_100 rfl (by first | rfl | exact z_isr_rf _) ?_
    refine z_iload (pc := 101) dL_puzzles_101 rfl ?_
    refine z_callSXp (pc := 103) (wL_puzzle hV (nI n)) dL_puzzles_103 cwL_108 okL_puzzle rfl (by omega) rfl (Nat.le_of_ble_eq_true rfl) (by omega) (by omega) ?_
    rw [z_if_t (show z_rg (nI n) (N 2 0) from ⟨n, by omega, rfl⟩), nI_clamp (by omega)]
    refine z_iload (pc := 106) dL_puzzles_106 rfl ?_
    refine z_icmp_eq (pc := 108) (tgt := 115) dL_puzzles_108 (by decide) (fun hn => absurd hn (fun z => hd n (by omega) (by rw [hits]; exact z))) (fun _ => ?_)
    refine z_iconst_1 (pc := 111) dL_puzzles_111 ?_
    refine z_goto (pc := 112) (tgt := 116) dL_puzzles_112 (by decide) ?_
    refine z_istore6 (pc := 116) dL_puzzles_116 ?_
    refine z_iinc7 (pc := 118) dL_puzzles_118 ?_
    refine z_goto (pc := 121) (tgt := 88) dL_puzzles_121 (by decide) ?_
    rw [nI_1]
    exact ih (n + 1) (by omega) (by omega) _ _ (by omega) (by omega)
theorem iL_puzC (hFg : F ag) (hwg : ws ag = some (.inl (G.2.1 0, 7, .inl fg))) (hg1 : fg 1 = nI (z_edo N oc)) (hV : z_V G F a0 ws I N oc B w) {Z : z_Gq} {x1 : Option Value} {ck sk : Nat} (kk : ∀ x4 x5 x6 x7 x8 x9 x10, z_E G zL_puzzles 9 Z 137 [some (.ref a0), x1, some (.ref ag), some (.int (nI (N 2 0))), x4, x5, x6, x7, x8, x9, x10] [] w ck sk) : ∀ m k : Nat, N 2 0 - k = m → k ≤ N 2 0 → ∀ x5 x6 x7 x8 x9 x10 ck' sk', ck + 45 * m ≤ ck' → sk + 270 * m ≤ sk' → z_E G zL_puzzles 9 Z 8 [some (.ref a0), x1, some (.ref ag), some (.int (nI (N 2 0))), some (.int (nI k)), x5, x6, x7, x8, x9, x10] [] w ck' sk' := by
  have hn := hV.n
  obtain ⟨⟨hdis, src, hsrc, hmon⟩, hrg⟩ := hV.z
  intro m
  induction m with
  | zero =>
    intro k hm hk x5 x6 x7 x8 x9 x10 ck' sk' h1 h2
    refine z_iload (pc := 8) dL_puzzles_8 rfl ?_
    refine z_iload_n (pc := 10) dL_puzzles_10 rfl ?_
    refine z_icmp_ge (pc := 11) (tgt := 137) dL_puzzles_11 (by decide) (fun _ => ?_) (fun hn => absurd (nI_le (by omega) (by omega)) hn)
    exact z_E.mono (by omega) (by omega) (kk _ _ _ _ _ _ _)
  | succ m ih =>
    intro k hm hk x5 x6 x7 x8 x9 x10 ck' sk' h1 h2
    have hkn : k < N 2 0 := by omega
    have hkr : z_rg (nI k) (N 2 0) := ⟨k, hkn, rfl⟩
    have ck1 := nI_clamp (show k < 2 ^ 31 by omega)
    obtain ⟨its, hi, hits⟩ := hrg k hkn
    obtain ⟨hs1, hs2⟩ := hsrc k hkn
    have hed : z_edo N oc ≤ 60 := by unfold z_edo; cases oc <;> dsimp only <;> omega
    have fin : ∀ c1 s1, ck + 45 * m + 40 ≤ c1 → sk + 270 * m + 240 ≤ s1 → z_E G zL_puzzles 9 Z 78 [some (.ref a0), x1, some (.ref ag), some (.int (nI (N 2 0))), some (.int (nI k)), some (.int (nI its)), x6, x7, x8, x9, x10] [] w c1 s1 := by
      intro c1 s1 h3 h4
      refine z_iconst_1 (pc := 78) dL_puzzles_78 ?_
      refine z_goto (pc := 79) (tgt := 83) dL_puzzles_79 (by decide) ?_
      refine z_istore6 (pc := 83) dL_puzzles_83 ?_
      refine z_iconst_0 (pc := 85) dL_puzzles_85 ?_
      refine z_istore7 (pc := 86) dL_puzzles_86 ?_
      refine iL_puzD hV (ck := ck + 45 * m) (sk := sk + 270 * m) hkn hits (fun n hnk => hdis n k hnk hkn) (fun y7 => ?_) k 0 rfl (Nat.zero_le _) c1 s1 (by omega) (by omega)
      refine z_iload (pc := 124) dL_puzzles_124 rfl ?_
      refine z_if_ne (pc := 126) (tgt := 131) dL_puzzles_126 (by decide) (fun _ => ?_) (fun hn => absurd hn (by decide))
      refine z_iinc4 (pc := 131) dL_puzzles_131 ?_
      refine z_goto (pc := 134) (tgt := 8) dL_puzzles_134 (by decide) ?_
      rw [nI_1]
      exact ih (k + 1) (by omega) (by omega) _ _ _ _ _ _ _ _ (Nat.le_refl _) (Nat.le_refl _)
    refine z_iload (pc := 8) dL_puzzles_8 rfl ?_
    refine z_iload_n (pc := 10) dL_puzzles_10 rfl ?_
    refine z_icmp_ge (pc := 11) (tgt := 137) dL_puzzles_11 (by decide) (fun hn => absurd hn (nI_ge hkn (by omega))) (fun _ => ?_)
    refine z_aload_n (pc := 14) dL_puzzles_14 rfl (by first | rfl | exact z_isr_rf _) ?_
    refine z_iload (pc := 15) dL_puzzles_15 rfl ?_
    refine z_callSXp (pc := 17) (wL_puzzle hV (nI k)) dL_puzzles_17 cwL_108 okL_puzzle rfl (by omega) rfl (Nat.le_of_ble_eq_true rfl) (by omega) (by omega) ?_
    rw [z_if_t hkr, ck1, hits]
    refine z_istore5 (pc := 20) dL_puzzles_20 ?_
    refine z_iload (pc := 22) dL_puzzles_22 rfl ?_
    refine z_if_lt (pc := 24) (tgt := 82) dL_puzzles_24 (by decide) (fun hn => absurd hn (nI_pos (by omega))) (fun _ => ?_)
    refine z_iload (pc := 27) dL_puzzles_27 rfl ?_
    refine z_sipush_1000 (pc := 29) dL_puzzles_29 ?_
    refine z_icmp_ge (pc := 32) (tgt := 82) dL_puzzles_32 (by decide) (fun hn => absurd hn (fun z => absurd ((nI_leI (a := 1000) (by omega) (by omega)).1 z) (by omega))) (fun _ => ?_)
    refine z_aload_n (pc := 35) dL_puzzles_35 rfl (by first | rfl | exact z_isr_rf _) ?_
    refine z_iload (pc := 36) dL_puzzles_36 rfl ?_
    refine z_callSXp (pc := 38) (wL_source hV (nI k)) dL_puzzles_38 cwL_110 okL_source rfl (by omega) rfl (Nat.le_of_ble_eq_true rfl) (by omega) (by omega) ?_
    rw [z_if_t hkr, ck1, hs1]
    refine z_if_lt (pc := 41) (tgt := 82) dL_puzzles_41 (by decide) (fun hn => absurd hn (nI_pos (by omega))) (fun _ => ?_)
    refine z_aload_n (pc := 44) dL_puzzles_44 rfl (by first | rfl | exact z_isr_rf _) ?_
    refine z_iload (pc := 45) dL_puzzles_45 rfl ?_
    refine z_callSXp (pc := 47) (wL_source hV (nI k)) dL_puzzles_47 cwL_110 okL_source rfl (by omega) rfl (Nat.le_of_ble_eq_true rfl) (by omega) (by omega) ?_
    rw [z_if_t hkr, ck1, hs1]
    refine z_aload_n (pc := 50) dL_puzzles_50 rfl (by first | rfl | exact z_isr_rf _) ?_
    refine z_iconst_1 (pc := 51) dL_puzzles_51 ?_
    refine z_iald (pc := 52) dL_puzzles_52 ((hV.at hFg).trans hwg) (z_v1) ?_
    rw [z_c1, hg1]
    refine z_icmp_ge (pc := 53) (tgt := 82) dL_puzzles_53 (by decide) (fun hn => absurd hn (nI_ge hs2 (by omega))) (fun _ => ?_)
    refine z_iload (pc := 56) dL_puzzles_56 rfl ?_
    by_cases h0 : k = 0
    · refine z_if_eq (pc := 58) (tgt := 78) dL_puzzles_58 (by decide) (fun _ => ?_) (fun hn => absurd (by rw [h0]; rfl) hn)
      exact fin _ _ (by omega) (by omega)
    · refine z_if_eq (pc := 58) (tgt := 78) dL_puzzles_58 (by decide) (fun hn => absurd hn (nI_ne0 (by omega) (by omega))) (fun _ => ?_)
      refine z_aload_n (pc := 61) dL_puzzles_61 rfl (by first | rfl | exact z_isr_rf _) ?_
      refine z_iload (pc := 62) dL_puzzles_62 rfl ?_
      refine z_callSXp (pc := 64) (wL_source hV (nI k)) dL_puzzles_64 cwL_110 okL_source rfl (by omega) rfl (Nat.le_of_ble_eq_true rfl) (by omega) (by omega) ?_
      rw [z_if_t hkr, ck1, hs1]
      refine z_aload_n (pc := 67) dL_puzzles_67 rfl (by first | rfl | exact z_isr_rf _) ?_
      refine z_iload (pc := 68) dL_puzzles_68 rfl ?_
      refine z_iconst_1 (pc := 70) dL_puzzles_70 ?_
      refine z_isub (pc := 71) dL_puzzles_71 ?_
      rw [show nI k - 1 = nI (k - 1) from pk_sub (b := 1) (by omega)]
      refine z_callSXp (pc := 72) (wL_source hV (nI (k - 1))) dL_puzzles_72 cwL_110 okL_source rfl (by omega) rfl (Nat.le_of_ble_eq_true rfl) (by omega) (by omega) ?_
      rw [z_if_t (show z_rg (nI (k - 1)) (N 2 0) from ⟨k - 1, by omega, rfl⟩), nI_clamp (by omega), (hsrc (k - 1) (by omega)).1]
      have h5 := hmon (k - 1) k (by omega) hkn
      refine z_icmp_lt (pc := 75) (tgt := 82) dL_puzzles_75 (by decide) (fun hn => absurd hn (nI_nlt h5 (by omega))) (fun _ => ?_)
      exact fin _ _ (by omega) (by omega)
theorem iL_puzR (hV : z_V G F a0 ws I N oc B w) {Z : z_Gq} {p t : Nat} (hp : p < N 0 0) (ht : t < 5) {x1 x2 x3 x5 x6 x7 x9 x10 : Option Value} {ck sk : Nat} (hc : 4 ≤ ck) (hs : 24 ≤ sk) (kk : z_E G zL_puzzles 9 Z 337 [some (.ref a0), x1, x2, x3, some (.int (nI p)), x5, x6, x7, some (.int (nI (t + 1))), x9, x10] [] w (ck - 4) (sk - 24)) : z_E G zL_puzzles 9 Z 337 [some (.ref a0), x1, x2, x3, some (.int (nI p)), x5, x6, x7, some (.int (nI t)), x9, x10] [] w ck sk := by
  have hn := hV.n
  obtain ⟨a, ha, h1, h2⟩ := hV.r p hp t ht
  have hpr : z_rg (nI p) (N 0 0) := ⟨p, hp, rfl⟩
  have htr : z_rg (nI t) 5 := ⟨t, ht, rfl⟩
  refine z_iload (pc := 337) dL_puzzles_337 rfl ?_
  refine z_iconst_5 (pc := 339) dL_puzzles_339 ?_
  refine z_icmp_ge (pc := 340) (tgt := 378) dL_puzzles_340 (by decide) (fun hn => absurd hn (fun z => absurd ((nI_leI (a := 5) (by omega) (by omega)).1 z) (by omega))) (fun _ => ?_)
  refine z_aload_n (pc := 343) dL_puzzles_343 rfl (by first | rfl | exact z_isr_rf _) ?_
  refine z_iload (pc := 344) dL_puzzles_344 rfl ?_
  refine z_iload (pc := 346) dL_puzzles_346 rfl ?_
  refine z_callSXp (pc := 348) (wL_rating hV (nI p) (nI t)) dL_puzzles_348 cwL_114 okL_rating rfl (by omega) rfl (Nat.le_of_ble_eq_true rfl) (by omega) (by omega) ?_
  rw [z_if_t hpr, z_if_t htr, nI_clamp (show p < 2 ^ 31 by omega), nI_clamp (show t < 2 ^ 31 by omega), ha]
  refine z_bipush_100 (pc := 351) dL_puzzles_351 ?_
  refine z_icmp_lt (pc := 353) (tgt := 370) dL_puzzles_353 (by decide) (fun hn => absurd hn (nI_nlt (b := 100) h1 (by omega))) (fun _ => ?_)
  refine z_aload_n (pc := 356) dL_puzzles_356 rfl (by first | rfl | exact z_isr_rf _) ?_
  refine z_iload (pc := 357) dL_puzzles_357 rfl ?_
  refine z_iload (pc := 359) dL_puzzles_359 rfl ?_
  refine z_callSXp (pc := 361) (wL_rating hV (nI p) (nI t)) dL_puzzles_361 cwL_114 okL_rating rfl (by omega) rfl (Nat.le_of_ble_eq_true rfl) (by omega) (by omega) ?_
  rw [z_if_t hpr, z_if_t htr, nI_clamp (show p < 2 ^ 31 by omega), nI_clamp (show t < 2 ^ 31 by omega), ha]
  refine z_sipush_3000 (pc := 364) dL_puzzles_364 ?_
  refine z_icmp_le (pc := 367) (tgt := 372) dL_puzzles_367 (by decide) (fun _ => ?_) (fun hn => absurd (nI_le (b := 3000) h2 (by omega)) hn)
  refine z_iinc8 (pc := 372) dL_puzzles_372 ?_
  refine z_goto (pc := 375) (tgt := 337) dL_puzzles_375 (by decide) ?_
  rw [nI_1]
  exact z_E.mono (by omega) (by omega) kk
theorem iL_puzB (hFp : F ap) (hwp : ws ap = some (.inl (G.2.1 0, 16, .inl fp))) (hfp : z_tr I N fp) (hV : z_V G F a0 ws I N oc B w) {Z : z_Gq} {p : Nat} (hp : p < N 0 0) {x2 : Option Value} {ck sk : Nat} (kk : ∀ x8 x9 x10, z_E G zL_puzzles 9 Z 334 [some (.ref a0), some (.ref ap), x2, some (.int (nI (N 2 0))), some (.int (nI p)), some (.int (z_fi (z_of I p (N 2 0) 40))), some (.int (z_ft I (z_of I p (N 2 0) 40))), some (.int (z_b (∀ z, z < N 2 0 → I 4 p z ≠ 0))), x8, x9, x10] [] w ck sk) : ∀ m k : Nat, N 2 0 - k = m → k ≤ N 2 0 → ∀ x9 x10 ck' sk', ck + 9 * m ≤ ck' → sk + 54 * m ≤ sk' → z_E G zL_puzzles 9 Z 181 [some (.ref a0), some (.ref ap), x2, some (.int (nI (N 2 0))), some (.int (nI p)), some (.int (z_fi (z_of I p (N 2 0) 40))), some (.int (z_ft I (z_of I p (N 2 0) 40))), some (.int (z_b (∀ z, z < k → I 4 p z ≠ 0))), some (.int (nI k)), x9, x10] [] w ck' sk' := by
  have hn := hV.n
  obtain ⟨-, hrg⟩ := hV.z
  have hof := z_of_s (I := I) (p := p) (nz := N 2 0) 40
  have hpr : z_rg (nI p) (N 0 0) := ⟨p, hp, rfl⟩
  have cp := nI_clamp (show p < 2 ^ 31 by omega)
  intro m
  induction m with
  | zero =>
    intro k hm hk x9 x10 ck' sk' h1 h2
    have e : k = N 2 0 := by omega
    subst e
    refine z_iload (pc := 181) dL_puzzles_181 rfl ?_
    refine z_iload_n (pc := 183) dL_puzzles_183 rfl ?_
    refine z_icmp_ge (pc := 184) (tgt := 334) dL_puzzles_184 (by decide) (fun _ => ?_) (fun hn => absurd (nI_le (Nat.le_refl _) (by omega)) hn)
    exact z_E.mono (by omega) (by omega) (kk _ _ _)
  | succ m ih =>
    intro k hm hk x9 x10 ck' sk' h1 h2
    have hkn : k < N 2 0 := by omega
    have hkr : z_rg (nI k) (N 2 0) := ⟨k, hkn, rfl⟩
    have ck1 := nI_clamp (show k < 2 ^ 31 by omega)
    obtain ⟨T, hT1, hT2, hT3⟩ := hfp
    have hix : 2 * p + k / 20 < 16 := by omega
    obtain ⟨hTe, hTl⟩ := hT1 _ hix
    have hTk := hT3 p hp k (by omega)
    obtain ⟨jk, hjk, ejk⟩ := hrg k hkn
    have eth : z_th I k = jk % 5 := by unfold z_th; rw [ejk, nI_clamp (by omega)]
    have ht5 : z_th I k < 5 := Nat.mod_lt _ (by omega)
    have nxt : ∀ c1 s1 y9 y10, ck + 9 * m ≤ c1 → sk + 54 * m ≤ s1 → z_E G zL_puzzles 9 Z 328 [some (.ref a0), some (.ref ap), x2, some (.int (nI (N 2 0))), some (.int (nI p)), some (.int (z_fi (z_of I p (N 2 0) 40))), some (.int (z_ft I (z_of I p (N 2 0) 40))), some (.int (z_b (∀ z, z < k + 1 → I 4 p z ≠ 0))), some (.int (nI k)), y9, y10] [] w c1 s1 := by
      intro c1 s1 y9 y10 h3 h4
      refine z_iinc8 (pc := 328) dL_puzzles_328 ?_
      refine z_goto (pc := 331) (tgt := 181) dL_puzzles_331 (by decide) ?_
      rw [nI_1]
      exact ih (k + 1) (by omega) (by omega) _ _ _ _ h3 h4
    have go3 : ∀ c1 s1, ck + 9 * m + 8 ≤ c1 → sk + 54 * m + 48 ≤ s1 → z_E G zL_puzzles 9 Z 257 [some (.ref a0), some (.ref ap), x2, some (.int (nI (N 2 0))), some (.int (nI p)), some (.int (z_fi (z_of I p (N 2 0) 40))), some (.int (z_ft I (z_of I p (N 2 0) 40))), some (.int (z_b (∀ z, z < k + 1 → I 4 p z ≠ 0))), some (.int (nI k)), some (.int (z_b (I 4 p k ≠ 0))), some (.int (nI (z_th I k)))] [] w c1 s1 := by
      intro c1 s1 h3 h4
      refine z_iload (pc := 257) dL_puzzles_257 rfl ?_
      by_cases ht : I 4 p k ≠ 0
      · refine z_if_ne (pc := 259) (tgt := 328) dL_puzzles_259 (by decide) (fun _ => ?_) (fun hn => absurd hn (fun z => z_b_0 z ht))
        exact nxt _ _ _ _ (by omega) (by omega)
      · refine z_if_ne (pc := 259) (tgt := 328) dL_puzzles_259 (by decide) (fun hn => absurd (z_b_f ht) hn) (fun _ => ?_)
        refine z_iload (pc := 262) dL_puzzles_262 rfl ?_
        cases ho : z_of I p (N 2 0) 40 with
        | none => exact absurd (Classical.not_not.1 ht) (hof.1 ho k (by omega) hkn)
        | some f =>
          obtain ⟨f1, f2, f3, f4⟩ := hof.2 f ho
          obtain ⟨g1, g2⟩ := f4 k (by omega) hkn (Classical.not_not.1 ht)
          have hf5 : z_th I f < 5 := Nat.mod_lt _ (by omega)
          have cf := nI_clamp (show z_th I f < 2 ^ 31 by omega)
          have ct := nI_clamp (show z_th I k < 2 ^ 31 by omega)
          rw [ho] at nxt
          rw [show z_fi (some f) = nI f from rfl, show z_ft I (some f) = nI (z_th I f) from rfl] at nxt ⊢
          refine z_if_lt (pc := 264) (tgt := 328) dL_puzzles_264 (by decide) (fun hn => absurd hn (nI_pos (by omega))) (fun _ => ?_)
          refine z_aload_n (pc := 267) dL_puzzles_267 rfl (by first | rfl | exact z_isr_rf _) ?_
          refine z_iload (pc := 268) dL_puzzles_268 rfl ?_
          refine z_iload (pc := 270) dL_puzzles_270 rfl ?_
          refine z_callSXp (pc := 272) (wL_rating hV (nI p) (nI (z_th I k))) dL_puzzles_272 cwL_114 okL_rating rfl (by omega) rfl (Nat.le_of_ble_eq_true rfl) (by omega) (by omega) ?_
          rw [z_if_t hpr, z_if_t (show z_rg (nI (z_th I k)) 5 from ⟨_, ht5, rfl⟩), cp, ct]
          refine z_aload_n (pc := 275) dL_puzzles_275 rfl (by first | rfl | exact z_isr_rf _) ?_
          refine z_iload (pc := 276) dL_puzzles_276 rfl ?_
          refine z_iload (pc := 278) dL_puzzles_278 rfl ?_
          refine z_callSXp (pc := 280) (wL_rating hV (nI p) (nI (z_th I f))) dL_puzzles_280 cwL_114 okL_rating rfl (by omega) rfl (Nat.le_of_ble_eq_true rfl) (by omega) (by omega) ?_
          rw [z_if_t hpr, z_if_t (show z_rg (nI (z_th I f)) 5 from ⟨_, hf5, rfl⟩), cp, cf]
          refine z_icmp_lt (pc := 283) (tgt := 326) dL_puzzles_283 (by decide) (fun hn => absurd hn (g1)) (fun _ => ?_)
          refine z_aload_n (pc := 286) dL_puzzles_286 rfl (by first | rfl | exact z_isr_rf _) ?_
          refine z_iload (pc := 287) dL_puzzles_287 rfl ?_
          refine z_iload (pc := 289) dL_puzzles_289 rfl ?_
          refine z_callSXp (pc := 291) (wL_rating hV (nI p) (nI (z_th I k))) dL_puzzles_291 cwL_114 okL_rating rfl (by omega) rfl (Nat.le_of_ble_eq_true rfl) (by omega) (by omega) ?_
          rw [z_if_t hpr, z_if_t (show z_rg (nI (z_th I k)) 5 from ⟨_, ht5, rfl⟩), cp, ct]
          refine z_aload_n (pc := 294) dL_puzzles_294 rfl (by first | rfl | exact z_isr_rf _) ?_
          refine z_iload (pc := 295) dL_puzzles_295 rfl ?_
          refine z_iload (pc := 297) dL_puzzles_297 rfl ?_
          refine z_callSXp (pc := 299) (wL_rating hV (nI p) (nI (z_th I f))) dL_puzzles_299 cwL_114 okL_rating rfl (by omega) rfl (Nat.le_of_ble_eq_true rfl) (by omega) (by omega) ?_
          rw [z_if_t hpr, z_if_t (show z_rg (nI (z_th I f)) 5 from ⟨_, hf5, rfl⟩), cp, cf]
          by_cases e : I 3 p (z_th I k) = I 3 p (z_th I f)
          · refine z_icmp_ne (pc := 302) (tgt := 328) dL_puzzles_302 (by decide) (fun hn => absurd (e) hn) (fun _ => ?_)
            obtain ⟨g3, g4⟩ := g2 e
            refine z_iload (pc := 305) dL_puzzles_305 rfl ?_
            refine z_iload (pc := 307) dL_puzzles_307 rfl ?_
            refine z_icmp_lt (pc := 309) (tgt := 326) dL_puzzles_309 (by decide) (fun hn => absurd hn (nI_nlt (by omega) (by omega))) (fun _ => ?_)
            refine z_iload (pc := 312) dL_puzzles_312 rfl ?_
            refine z_iload (pc := 314) dL_puzzles_314 rfl ?_
            by_cases e2 : z_th I k = z_th I f
            · refine z_icmp_ne (pc := 316) (tgt := 328) dL_puzzles_316 (by decide) (fun hn => absurd (congrArg nI e2) hn) (fun _ => ?_)
              refine z_iload (pc := 319) dL_puzzles_319 rfl ?_
              refine z_iload (pc := 321) dL_puzzles_321 rfl ?_
              refine z_icmp_ge (pc := 323) (tgt := 328) dL_puzzles_323 (by decide) (fun _ => ?_) (fun hn => absurd (nI_le (g4 e2) (by omega)) hn)
              exact nxt _ _ _ _ (by omega) (by omega)
            · refine z_icmp_ne (pc := 316) (tgt := 328) dL_puzzles_316 (by decide) (fun _ => ?_) (fun hn => absurd hn (fun z => e2 (nI_inj (by omega) (by omega) z)))
              exact nxt _ _ _ _ (by omega) (by omega)
          · refine z_icmp_ne (pc := 302) (tgt := 328) dL_puzzles_302 (by decide) (fun _ => ?_) (fun hn => absurd hn (e))
            exact nxt _ _ _ _ (by omega) (by omega)
    have go2 : ∀ c1 s1 y7, ck + 9 * m + 8 ≤ c1 → sk + 54 * m + 48 ≤ s1 → z_E G zL_puzzles 9 Z 243 [some (.ref a0), some (.ref ap), x2, some (.int (nI (N 2 0))), some (.int (nI p)), some (.int (z_fi (z_of I p (N 2 0) 40))), some (.int (z_ft I (z_of I p (N 2 0) 40))), some y7, some (.int (nI k)), some (.int (z_b (I 4 p k ≠ 0))), some (.int (nI (z_th I k)))] [.int (z_b (∀ z, z < k + 1 → I 4 p z ≠ 0))] w c1 s1 := by
      intro c1 s1 y7 h3 h4
      refine z_istore7 (pc := 243) dL_puzzles_243 ?_
      refine z_iload (pc := 245) dL_puzzles_245 rfl ?_
      refine z_iload (pc := 247) dL_puzzles_247 rfl ?_
      by_cases e : z_fi (z_of I p (N 2 0) 40) = nI k
      · refine z_icmp_ne (pc := 249) (tgt := 257) dL_puzzles_249 (by decide) (fun hn => absurd (e) hn) (fun _ => ?_)
        refine z_iload (pc := 252) dL_puzzles_252 rfl ?_
        have h4k : I 4 p k = 0 := by
          cases ho : z_of I p (N 2 0) 40 with
          | none => rw [ho] at e; exact absurd (by rw [← e]; decide) (nI_pos (n := k) (by omega))
          | some f =>
            rw [ho] at e
            obtain ⟨f1, f2, f3, f4⟩ := hof.2 f ho
            have := nI_inj (by omega) (by omega) (show nI f = nI k from e)
            rw [← this]
            exact f3
        refine z_if_ne (pc := 254) (tgt := 326) dL_puzzles_254 (by decide) (fun hn => absurd (z_b_f (fun z => z h4k)) hn) (fun _ => ?_)
        exact go3 _ _ h3 h4
      · refine z_icmp_ne (pc := 249) (tgt := 257) dL_puzzles_249 (by decide) (fun _ => ?_) (fun hn => absurd hn (e))
        exact go3 _ _ h3 h4
    have go1 : ∀ c1 s1 y9 y10, ck + 9 * m + 9 ≤ c1 → sk + 54 * m + 54 ≤ s1 → z_E G zL_puzzles 9 Z 216 [some (.ref a0), some (.ref ap), x2, some (.int (nI (N 2 0))), some (.int (nI p)), some (.int (z_fi (z_of I p (N 2 0) 40))), some (.int (z_ft I (z_of I p (N 2 0) 40))), some (.int (z_b (∀ z, z < k → I 4 p z ≠ 0))), some (.int (nI k)), y9, y10] [.int (z_b (I 4 p k ≠ 0))] w c1 s1 := by
      intro c1 s1 y9 y10 h3 h4
      refine z_istore9 (pc := 216) dL_puzzles_216 ?_
      refine z_aload_n (pc := 218) dL_puzzles_218 rfl (by first | rfl | exact z_isr_rf _) ?_
      refine z_iload (pc := 219) dL_puzzles_219 rfl ?_
      refine z_callSXp (pc := 221) (wL_puzzle hV (nI k)) dL_puzzles_221 cwL_108 okL_puzzle rfl (by omega) rfl (Nat.le_of_ble_eq_true rfl) (by omega) (by omega) ?_
      rw [z_if_t hkr, ck1, ejk]
      refine z_iconst_5 (pc := 224) dL_puzzles_224 ?_
      refine z_irem (pc := 225) dL_puzzles_225 (by first | decide | assumption) ?_
      rw [show nI jk - nI jk / 5 * 5 = nI (jk % 5) from pk_rem (d := 5) (by omega) (by decide) (by decide), ← eth]
      refine z_istore10 (pc := 226) dL_puzzles_226 ?_
      refine z_iload (pc := 228) dL_puzzles_228 rfl ?_
      by_cases hal : ∀ z, z < k → I 4 p z ≠ 0
      · refine z_if_eq (pc := 230) (tgt := 242) dL_puzzles_230 (by decide) (fun hn => absurd hn (fun z => z_b_0 z hal)) (fun _ => ?_)
        refine z_iload (pc := 233) dL_puzzles_233 rfl ?_
        by_cases ht : I 4 p k ≠ 0
        · refine z_if_eq (pc := 235) (tgt := 242) dL_puzzles_235 (by decide) (fun hn => absurd hn (fun z => z_b_0 z ht)) (fun _ => ?_)
          refine z_iconst_1 (pc := 238) dL_puzzles_238 ?_
          refine z_goto (pc := 239) (tgt := 243) dL_puzzles_239 (by decide) ?_
          have e : z_b (∀ z, z < k + 1 → I 4 p z ≠ 0) = 1 := z_b_t (fun z hz => by
            by_cases r : z = k
            · rw [r]; exact ht
            · exact hal z (by omega))
          rw [e] at go2
          exact go2 _ _ _ (by omega) (by omega)
        · refine z_if_eq (pc := 235) (tgt := 242) dL_puzzles_235 (by decide) (fun _ => ?_) (fun hn => absurd (z_b_f ht) hn)
          refine z_iconst_0 (pc := 242) dL_puzzles_242 ?_
          have e : z_b (∀ z, z < k + 1 → I 4 p z ≠ 0) = 0 := z_b_f (fun h => ht (h k (by omega)))
          rw [e] at go2
          exact go2 _ _ _ (by omega) (by omega)
      · refine z_if_eq (pc := 230) (tgt := 242) dL_puzzles_230 (by decide) (fun _ => ?_) (fun hn => absurd (z_b_f hal) hn)
        refine z_iconst_0 (pc := 242) dL_puzzles_242 ?_
        have e : z_b (∀ z, z < k + 1 → I 4 p z ≠ 0) = 0 := z_b_f (fun h => hal (fun z hz => h z (by omega)))
        rw [e] at go2
        exact go2 _ _ _ (by omega) (by omega)
    refine z_iload (pc := 181) dL_puzzles_181 rfl ?_
    refine z_iload_n (pc := 183) dL_puzzles_183 rfl ?_
    refine z_icmp_ge (pc := 184) (tgt := 334) dL_puzzles_184 (by decide) (fun hn => absurd hn (nI_ge hkn (by omega))) (fun _ => ?_)
    refine z_aload_n (pc := 187) dL_puzzles_187 rfl (by first | rfl | exact z_isr_rf _) ?_
    refine z_iconst_2 (pc := 188) dL_puzzles_188 ?_
    refine z_iload (pc := 189) dL_puzzles_189 rfl ?_
    refine z_imul (pc := 191) dL_puzzles_191 ?_
    rw [show (2 : Int32) * nI p = nI (2 * p) from pk_mul 2 p]
    refine z_iload (pc := 192) dL_puzzles_192 rfl ?_
    refine z_bipush_20 (pc := 194) dL_puzzles_194 ?_
    refine z_idiv (pc := 196) dL_puzzles_196 (by first | decide | assumption) ?_
    rw [show nI k / 20 = nI (k / 20) from pk_div (d := 20) (by omega) (by decide) (by decide)]
    refine z_iadd (pc := 197) dL_puzzles_197 ?_
    rw [nI_add]
    refine z_iald (pc := 198) dL_puzzles_198 ((hV.at hFp).trans hwp) (vp_in_nI hix (by omega)) ?_
    rw [nI_clamp (show 2 * p + k / 20 < 2 ^ 31 by omega), hTe]
    refine z_iload (pc := 199) dL_puzzles_199 rfl ?_
    refine z_bipush_20 (pc := 201) dL_puzzles_201 ?_
    refine z_irem (pc := 203) dL_puzzles_203 (by first | decide | assumption) ?_
    rw [show nI k - nI k / 20 * 20 = nI (k % 20) from pk_rem (d := 20) (by omega) (by decide) (by decide)]
    refine z_ishr (pc := 204) dL_puzzles_204 ?_
    refine z_iconst_1 (pc := 205) dL_puzzles_205 ?_
    refine z_iand (pc := 206) dL_puzzles_206 ?_
    rw [z_bit hTl (Nat.mod_lt _ (by omega))]
    refine z_iconst_1 (pc := 207) dL_puzzles_207 ?_
    by_cases ht : I 4 p k ≠ 0
    · rw [hTk.2 ht]
      rw [z_b_t ht] at go1
      refine z_icmp_ne (pc := 208) (tgt := 215) dL_puzzles_208 (by decide) (fun hn => absurd (rfl) hn) (fun _ => ?_)
      refine z_iconst_1 (pc := 211) dL_puzzles_211 ?_
      refine z_goto (pc := 212) (tgt := 216) dL_puzzles_212 (by decide) ?_
      exact go1 _ _ _ _ (by omega) (by omega)
    · rw [z_b_f ht] at go1
      refine z_icmp_ne (pc := 208) (tgt := 215) dL_puzzles_208 (by decide) (fun _ => ?_) (fun hn => absurd hn (fun z => ht (hTk.1 (nI_inj (b := 1) (by omega) (by omega) z))))
      refine z_iconst_0 (pc := 215) dL_puzzles_215 ?_
      exact go1 _ _ _ _ (by omega) (by omega)
set_option maxRecDepth 20000 in
theorem iL_puzA (hFp : F ap) (hwp : ws ap = some (.inl (G.2.1 0, 16, .inl fp))) (hfp : z_tr I N fp) (hFg : F ag) (hwg : ws ag = some (.inl (G.2.1 0, 7, .inl fg))) (hg0 : fg 0 = nI (N 0 0)) (hV : z_V G F a0 ws I N oc B w) {Z : z_Gq} {ck sk : Nat} (kk : ∀ x4 x5 x6 x7 x8 x9 x10, z_E G zL_puzzles 9 Z 402 [some (.ref a0), some (.ref ap), some (.ref ag), some (.int (nI (N 2 0))), x4, x5, x6, x7, x8, x9, x10] [] w ck sk) : ∀ m p : Nat, N 0 0 - p = m → p ≤ N 0 0 → ∀ x5 x6 x7 x8 x9 x10 ck' sk', ck + 382 * m ≤ ck' → sk + 2292 * m ≤ sk' → z_E G zL_puzzles 9 Z 140 [some (.ref a0), some (.ref ap), some (.ref ag), some (.int (nI (N 2 0))), some (.int (nI p)), x5, x6, x7, x8, x9, x10] [] w ck' sk' := by
  have hn := hV.n
  obtain ⟨-, hrg⟩ := hV.z
  intro m
  induction m with
  | zero =>
    intro p hm hp x5 x6 x7 x8 x9 x10 ck' sk' h1 h2
    refine z_iload (pc := 140) dL_puzzles_140 rfl ?_
    refine z_aload_n (pc := 142) dL_puzzles_142 rfl (by first | rfl | exact z_isr_rf _) ?_
    refine z_iconst_0 (pc := 143) dL_puzzles_143 ?_
    refine z_iald (pc := 144) dL_puzzles_144 ((hV.at hFg).trans hwg) (z_v0) ?_
    rw [z_c0, hg0]
    refine z_icmp_ge (pc := 145) (tgt := 402) dL_puzzles_145 (by decide) (fun _ => ?_) (fun hn => absurd (nI_le (by omega) (by omega)) hn)
    exact z_E.mono (by omega) (by omega) (kk _ _ _ _ _ _ _)
  | succ m ih =>
    intro p hm hp x5 x6 x7 x8 x9 x10 ck' sk' h1 h2
    have hpn : p < N 0 0 := by omega
    have hpr : z_rg (nI p) (N 0 0) := ⟨p, hpn, rfl⟩
    have hof := z_of_s (I := I) (p := p) (nz := N 2 0) 40
    have go : ∀ c1 s1 y6 y7 y8 y9 y10, ck + 382 * m + 380 ≤ c1 → sk + 2292 * m + 2280 ≤ s1 → z_E G zL_puzzles 9 Z 173 [some (.ref a0), some (.ref ap), some (.ref ag), some (.int (nI (N 2 0))), some (.int (nI p)), some (.int (z_fi (z_of I p (N 2 0) 40))), y6, y7, y8, y9, y10] [.int (z_ft I (z_of I p (N 2 0) 40))] w c1 s1 := by
      intro c1 s1 y6 y7 y8 y9 y10 h3 h4
      refine z_istore6 (pc := 173) dL_puzzles_173 ?_
      refine z_iconst_1 (pc := 175) dL_puzzles_175 ?_
      refine z_istore7 (pc := 176) dL_puzzles_176 ?_
      refine z_iconst_0 (pc := 178) dL_puzzles_178 ?_
      refine z_istore8 (pc := 179) dL_puzzles_179 ?_
      have h0 : z_b (∀ z, z < 0 → I 4 p z ≠ 0) = 1 := z_b_t (fun z hz => absurd hz (Nat.not_lt_zero _))
      have hB := iL_puzB (Z := Z) hFp hwp hfp hV hpn (x2 := some (.ref ag)) (ck := ck + 382 * m + 20) (sk := sk + 2292 * m + 120) (fun y8 y9 y10 => ?_) (N 2 0) 0 rfl (Nat.zero_le _) y9 y10 c1 s1 (by omega) (by omega)
      · rw [h0] at hB
        exact hB
      · refine z_iconst_0 (pc := 334) dL_puzzles_334 ?_
        refine z_istore8 (pc := 335) dL_puzzles_335 ?_
        refine iL_puzR hV (t := 0) hpn (by omega) (by omega) (by omega) ?_
        refine iL_puzR hV (t := 1) hpn (by omega) (by omega) (by omega) ?_
        refine iL_puzR hV (t := 2) hpn (by omega) (by omega) (by omega) ?_
        refine iL_puzR hV (t := 3) hpn (by omega) (by omega) (by omega) ?_
        refine iL_puzR hV (t := 4) hpn (by omega) (by omega) (by omega) ?_
        refine z_iload (pc := 337) dL_puzzles_337 rfl ?_
        refine z_iconst_5 (pc := 339) dL_puzzles_339 ?_
        refine z_icmp_ge (pc := 340) (tgt := 378) dL_puzzles_340 (by decide) (fun _ => ?_) (fun hn => absurd (by decide) hn)
        refine z_iload (pc := 378) dL_puzzles_378 rfl ?_
        refine z_iload (pc := 380) dL_puzzles_380 rfl ?_
        refine z_iconst_m1 (pc := 382) dL_puzzles_382 ?_
        cases ho : z_of I p (N 2 0) 40 with
        | none =>
          rw [z_b_t (fun z hz => hof.1 ho z (by omega) hz)]
          refine z_icmp_ne (pc := 383) (tgt := 390) dL_puzzles_383 (by decide) (fun hn => absurd (rfl) hn) (fun _ => ?_)
          refine z_iconst_1 (pc := 386) dL_puzzles_386 ?_
          refine z_goto (pc := 387) (tgt := 391) dL_puzzles_387 (by decide) ?_
          refine z_icmp_eq (pc := 391) (tgt := 396) dL_puzzles_391 (by decide) (fun _ => ?_) (fun hn => absurd (rfl) hn)
          refine z_iinc4 (pc := 396) dL_puzzles_396 ?_
          refine z_goto (pc := 399) (tgt := 140) dL_puzzles_399 (by decide) ?_
          rw [nI_1]
          exact ih (p + 1) (by omega) (by omega) _ _ _ _ _ _ _ _ (by omega) (by omega)
        | some f =>
          obtain ⟨f1, f2, f3, f4⟩ := hof.2 f ho
          rw [z_b_f (fun z => z f f2 f3)]
          refine z_icmp_ne (pc := 383) (tgt := 390) dL_puzzles_383 (by decide) (fun _ => ?_) (fun hn => absurd hn (fun z => nI_pos (n := f) (by omega) (by rw [show nI f = -1 from z]; decide)))
          refine z_iconst_0 (pc := 390) dL_puzzles_390 ?_
          refine z_icmp_eq (pc := 391) (tgt := 396) dL_puzzles_391 (by decide) (fun _ => ?_) (fun hn => absurd (rfl) hn)
          refine z_iinc4 (pc := 396) dL_puzzles_396 ?_
          refine z_goto (pc := 399) (tgt := 140) dL_puzzles_399 (by decide) ?_
          rw [nI_1]
          exact ih (p + 1) (by omega) (by omega) _ _ _ _ _ _ _ _ (by omega) (by omega)
    refine z_iload (pc := 140) dL_puzzles_140 rfl ?_
    refine z_aload_n (pc := 142) dL_puzzles_142 rfl (by first | rfl | exact z_isr_rf _) ?_
    refine z_iconst_0 (pc := 143) dL_puzzles_143 ?_
    refine z_iald (pc := 144) dL_puzzles_144 ((hV.at hFg).trans hwg) (z_v0) ?_
    rw [z_c0, hg0]
    refine z_icmp_ge (pc := 145) (tgt := 402) dL_puzzles_145 (by decide) (fun hn => absurd hn (nI_ge hpn (by omega))) (fun _ => ?_)
    refine z_aload_n (pc := 148) dL_puzzles_148 rfl (by first | rfl | exact z_isr_rf _) ?_
    refine z_iload (pc := 149) dL_puzzles_149 rfl ?_
    refine z_callSXp (pc := 151) (wL_offered hV (nI p)) dL_puzzles_151 cwL_112 okL_offered rfl (by omega) rfl (Nat.le_of_ble_eq_true rfl) (by omega) (by omega) ?_
    rw [z_if_t hpr, nI_clamp (show p < 2 ^ 31 by omega), hn.2.2.2.2.2]
    refine z_istore5 (pc := 154) dL_puzzles_154 ?_
    refine z_iload (pc := 156) dL_puzzles_156 rfl ?_
    have o1 : ck + 382 * m + 380 ≤ ck' - 1 := by omega
    have o2 : sk + 2292 * m + 2280 ≤ sk' - 6 := by omega
    cases ho : z_of I p (N 2 0) 40 with
    | none =>
      rw [ho] at go
      refine z_if_ge (pc := 158) (tgt := 165) dL_puzzles_158 (by decide) (fun hn => absurd hn (by decide)) (fun _ => ?_)
      refine z_iconst_0 (pc := 161) dL_puzzles_161 ?_
      refine z_goto (pc := 162) (tgt := 173) dL_puzzles_162 (by decide) ?_
      exact go _ _ _ _ _ _ _ o1 o2
    | some f =>
      rw [ho] at go
      obtain ⟨f1, f2, f3, f4⟩ := hof.2 f ho
      obtain ⟨jf, hjf, ejf⟩ := hrg f f2
      rw [show z_fi (some f) = nI f from rfl] at go ⊢
      refine z_if_ge (pc := 158) (tgt := 165) dL_puzzles_158 (by decide) (fun _ => ?_) (fun hn => absurd (nI_pos' (by omega)) hn)
      refine z_aload_n (pc := 165) dL_puzzles_165 rfl (by first | rfl | exact z_isr_rf _) ?_
      refine z_iload (pc := 166) dL_puzzles_166 rfl ?_
      refine z_callSXp (pc := 168) (wL_puzzle hV (nI f)) dL_puzzles_168 cwL_108 okL_puzzle rfl (by omega) rfl (Nat.le_of_ble_eq_true rfl) (by omega) (by omega) ?_
      rw [z_if_t (show z_rg (nI f) (N 2 0) from ⟨f, f2, rfl⟩), nI_clamp (show f < 2 ^ 31 by omega), ejf]
      refine z_iconst_5 (pc := 171) dL_puzzles_171 ?_
      refine z_irem (pc := 172) dL_puzzles_172 (by first | decide | assumption) ?_
      have o1 : ck + 382 * m + 380 ≤ ck' - 1 - 1 := by omega
      have o2 : sk + 2292 * m + 2280 ≤ sk' - 6 - 6 := by omega
      rw [show nI jf - nI jf / 5 * 5 = z_ft I (some f) from (pk_rem (d := 5) (by omega) (by decide) (by decide)).trans (by show nI (jf % 5) = nI ((I 9 f 0).toNatClampNeg % 5); rw [ejf, nI_clamp (by omega)])]
      exact go _ _ _ _ _ _ _ o1 o2
theorem mL_puzzles (hFp : F ap) (hwp : ws ap = some (.inl (G.2.1 0, 16, .inl fp))) (hfp : z_tr I N fp) (hFg : F ag) (hwg : ws ag = some (.inl (G.2.1 0, 7, .inl fg))) (hg0 : fg 0 = nI (N 0 0)) (hg1 : fg 1 = nI (z_edo N oc)) (hV : z_V G F a0 ws I N oc B w) : z_M G zL_puzzles 9 [.ref a0, .ref ap, .ref ag] w 4870 29220 (z_rp (.int 1) w) z_nx := by
  have hn := hV.n
  obtain ⟨fs0, hk0⟩ := hV.k0
  have n1 : ¬ z_rg (nI (N 2 0)) (N 2 0) := z_rg_ge (by omega) (nI_le (Nat.le_refl _) (by omega))
  have n2 : ¬ z_rg (-1) (N 2 0) := z_rg_lt (by omega) (by decide)
  have n3 : ¬ z_rg (nI (N 0 0)) (N 0 0) := z_rg_ge (by omega) (nI_le (Nat.le_refl _) (by omega))
  have n4 : ¬ z_rg 5 5 := z_rg_ge (by decide) (by decide)
  refine z_M.of (by decide +kernel) rfl (by intro v hv; simp only [List.mem_cons, List.not_mem_nil, or_false] at hv; rcases hv with rfl | rfl | rfl <;> first | rfl | exact z_isr_cat (z_isr_rf _)) (Nat.le_of_ble_eq_true rfl) ?_
  show z_E _ zL_puzzles _ _ 0 [some (.ref a0), some (.ref ap), some (.ref ag), none, none, none, none, none, none, none, none] [] _ _ _
  refine z_aload_n (pc := 0) dL_puzzles_0 rfl (by first | rfl | exact z_isr_rf _) ?_
  refine z_callVp (pc := 1) (vX_puzzles hV) dL_puzzles_1 cwL_105 okX5_puzzles rfl (hk0) rfl rfl (by omega) rfl (Nat.le_of_ble_eq_true rfl) ?_
  refine z_istore3 (pc := 4) dL_puzzles_4 ?_
  refine z_iconst_0 (pc := 5) dL_puzzles_5 ?_
  refine z_istore4 (pc := 6) dL_puzzles_6 ?_
  refine iL_puzC hFg hwg hg1 hV (ck := 3063) (sk := 18378) (fun x4 x5 x6 x7 x8 x9 x10 => ?_) (N 2 0) 0 rfl (Nat.zero_le _) _ _ _ _ _ _ _ _ (by omega) (by omega)
  refine z_iconst_0 (pc := 137) dL_puzzles_137 ?_
  refine z_istore4 (pc := 138) dL_puzzles_138 ?_
  refine iL_puzA hFp hwp hfp hFg hwg hg0 hV (ck := 7) (sk := 42) (fun x4 x5 x6 x7 x8 x9 x10 => ?_) (N 0 0) 0 rfl (Nat.zero_le _) _ _ _ _ _ _ _ _ (by omega) (by omega)
  refine z_iload_n (pc := 402) dL_puzzles_402 rfl ?_
  refine z_if_lt (pc := 403) (tgt := 478) dL_puzzles_403 (by decide) (fun hn => absurd hn (nI_pos (by omega))) (fun _ => ?_)
  refine z_iload_n (pc := 406) dL_puzzles_406 rfl ?_
  refine z_bipush_40 (pc := 407) dL_puzzles_407 ?_
  refine z_icmp_gt (pc := 409) (tgt := 478) dL_puzzles_409 (by decide) (fun hn => absurd hn (nI_nlt (a := 40) (by omega) (by omega))) (fun _ => ?_)
  refine z_aload_n (pc := 412) dL_puzzles_412 rfl (by first | rfl | exact z_isr_rf _) ?_
  refine z_iload_n (pc := 413) dL_puzzles_413 rfl ?_
  refine z_callSXp (pc := 414) (wL_puzzle hV (nI (N 2 0))) dL_puzzles_414 cwL_108 okL_puzzle rfl (by omega) rfl (Nat.le_of_ble_eq_true rfl) (by omega) (by omega) ?_
  rw [z_if_f n1]
  refine z_ldc (pc := 417) dL_puzzles_417 cc38 ?_
  refine z_icmp_ne (pc := 419) (tgt := 478) dL_puzzles_419 (by decide) (fun hn => absurd (rfl) hn) (fun _ => ?_)
  refine z_aload_n (pc := 422) dL_puzzles_422 rfl (by first | rfl | exact z_isr_rf _) ?_
  refine z_iconst_m1 (pc := 423) dL_puzzles_423 ?_
  refine z_callSXp (pc := 424) (wL_source hV (-1)) dL_puzzles_424 cwL_110 okL_source rfl (by omega) rfl (Nat.le_of_ble_eq_true rfl) (by omega) (by omega) ?_
  rw [z_if_f n2]
  refine z_ldc (pc := 427) dL_puzzles_427 cc38 ?_
  refine z_icmp_ne (pc := 429) (tgt := 478) dL_puzzles_429 (by decide) (fun hn => absurd (rfl) hn) (fun _ => ?_)
  refine z_aload_n (pc := 432) dL_puzzles_432 rfl (by first | rfl | exact z_isr_rf _) ?_
  refine z_aload_n (pc := 433) dL_puzzles_433 rfl (by first | rfl | exact z_isr_rf _) ?_
  refine z_iconst_0 (pc := 434) dL_puzzles_434 ?_
  refine z_iald (pc := 435) dL_puzzles_435 ((hV.at hFg).trans hwg) (z_v0) ?_
  rw [z_c0, hg0]
  refine z_callSXp (pc := 436) (wL_offered hV (nI (N 0 0))) dL_puzzles_436 cwL_112 okL_offered rfl (by omega) rfl (Nat.le_of_ble_eq_true rfl) (by omega) (by omega) ?_
  rw [z_if_f n3]
  refine z_ldc (pc := 439) dL_puzzles_439 cc38 ?_
  refine z_icmp_ne (pc := 441) (tgt := 478) dL_puzzles_441 (by decide) (fun hn => absurd (rfl) hn) (fun _ => ?_)
  refine z_aload_n (pc := 444) dL_puzzles_444 rfl (by first | rfl | exact z_isr_rf _) ?_
  refine z_aload_n (pc := 445) dL_puzzles_445 rfl (by first | rfl | exact z_isr_rf _) ?_
  refine z_iconst_0 (pc := 446) dL_puzzles_446 ?_
  refine z_iald (pc := 447) dL_puzzles_447 ((hV.at hFg).trans hwg) (z_v0) ?_
  rw [z_c0, hg0]
  refine z_iconst_5 (pc := 448) dL_puzzles_448 ?_
  refine z_callSXp (pc := 449) (wL_rating hV (nI (N 0 0)) 5) dL_puzzles_449 cwL_114 okL_rating rfl (by omega) rfl (Nat.le_of_ble_eq_true rfl) (by omega) (by omega) ?_
  rw [z_if_f n3]
  refine z_ldc (pc := 452) dL_puzzles_452 cc38 ?_
  refine z_icmp_ne (pc := 454) (tgt := 478) dL_puzzles_454 (by decide) (fun hn => absurd (rfl) hn) (fun _ => ?_)
  refine z_aload_n (pc := 457) dL_puzzles_457 rfl (by first | rfl | exact z_isr_rf _) ?_
  refine z_iconst_0 (pc := 458) dL_puzzles_458 ?_
  refine z_iald (pc := 459) dL_puzzles_459 ((hV.at hFg).trans hwg) (z_v0) ?_
  rw [z_c0, hg0]
  by_cases h0 : N 0 0 = 0
  · refine z_if_eq (pc := 460) (tgt := 474) dL_puzzles_460 (by decide) (fun _ => ?_) (fun hn => absurd (by rw [h0]; rfl) hn)
    refine z_iconst_1 (pc := 474) dL_puzzles_474 ?_
    refine z_goto (pc := 475) (tgt := 479) dL_puzzles_475 (by decide) ?_
    refine z_zret (pc := 479) dL_puzzles_479 rfl (Or.inr rfl ) ( ⟨rfl, rfl⟩)
  · refine z_if_eq (pc := 460) (tgt := 474) dL_puzzles_460 (by decide) (fun hn => absurd hn (nI_ne0 (by omega) (by omega))) (fun _ => ?_)
    refine z_aload_n (pc := 463) dL_puzzles_463 rfl (by first | rfl | exact z_isr_rf _) ?_
    refine z_iconst_0 (pc := 464) dL_puzzles_464 ?_
    refine z_iconst_5 (pc := 465) dL_puzzles_465 ?_
    refine z_callSXp (pc := 466) (wL_rating hV 0 5) dL_puzzles_466 cwL_114 okL_rating rfl (by omega) rfl (Nat.le_of_ble_eq_true rfl) (by omega) (by omega) ?_
    rw [z_if_t (show z_rg 0 (N 0 0) from ⟨0, by omega, rfl⟩), z_if_f n4]
    refine z_ldc (pc := 469) dL_puzzles_469 cc18 ?_
    refine z_icmp_ne (pc := 471) (tgt := 478) dL_puzzles_471 (by decide) (fun hn => absurd (rfl) hn) (fun _ => ?_)
    refine z_iconst_1 (pc := 474) dL_puzzles_474 ?_
    refine z_goto (pc := 475) (tgt := 479) dL_puzzles_475 (by decide) ?_
    refine z_zret (pc := 479) dL_puzzles_479 rfl (Or.inr rfl ) ( ⟨rfl, rfl⟩)
end LD

