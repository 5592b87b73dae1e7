/-! the reference's order of the players -/
def z_cn (M : z_TM) (k : Nat) : Nat → Nat
  | 0 => 0
  | i + 1 => z_cn M k i + (if M 1 k < M 1 i ∨ (M 1 i = M 1 k ∧ i < k) then 1 else 0)
theorem z_cn_le {M : z_TM} {k : Nat} : ∀ i, z_cn M k i ≤ i
  | 0 => Nat.le_refl _
  | i + 1 => by
    have := z_cn_le (M := M) (k := k) i
    unfold z_cn
    split <;> omega
theorem z_cn_lt {M : z_TM} {k : Nat} : ∀ i, k < i → z_cn M k i < i
  | 0, h => by omega
  | i + 1, h => by
    unfold z_cn
    by_cases q : k = i
    · subst q
      have := z_cn_le (M := M) (k := k) k
      rw [if_neg (by rintro (z | z); exact Int32.lt_irrefl z; omega)]
      omega
    · have := z_cn_lt (M := M) (k := k) i (by omega)
      split <;> omega
def z_so (M : z_TM) (n : Nat) : Nat → z_TM
  | 0 => M
  | k + 1 => z_sM (z_sM (z_so M n k) 19 (z_cn M k n) (nI k)) 20 k (-1)
theorem z_so_f {M : z_TM} {n f : Nat} (h1 : f ≠ 19) (h2 : f ≠ 20) : ∀ k, z_so M n k f = M f
  | 0 => rfl
  | k + 1 => by rw [z_so, z_sM_f _ _ _ h2, z_sM_f _ _ _ h1, z_so_f h1 h2 k]
section SO
variable {G : z_G} {F : Nat → Prop} {A : z_TA} {M : z_TM} {w : z_W}
theorem iX6_sorts1 {Z : z_Gq} {M' : z_TM} (hM : z_Mo G F A M' w) {n k : Nat} (h0 : M' 0 0 = nI n) (hn : n ≤ 8) (hk : k < n) (h1 : M' 1 = M 1) (kk : ∀ x3, z_E G zX6_sorts 0 Z 71 [some (.ref (A 22 0 0)), some (.int (nI k)), some (.int (nI (z_cn M k n))), x3] [] w 0 0) : ∀ m i : Nat, n - i = m → i ≤ n → z_E G zX6_sorts 0 Z 14 [some (.ref (A 22 0 0)), some (.int (nI k)), some (.int (nI (z_cn M k i))), some (.int (nI i))] [] w 0 0 := by
  intro m
  induction m with
  | zero =>
    intro i hm hi
    have : i = n := by omega
    subst this
    refine z_iload_n (pc := 14) dX6_sorts_14 rfl ?_
    refine z_aload_n (pc := 15) dX6_sorts_15 rfl (by first | rfl | exact z_isr_rf _) ?_
    refine gfX6_67 (pc := 16) rfl dX6_sorts_16 (hM.k22) rfl ?_
    rw [h0]
    refine z_icmp_ge (pc := 19) (tgt := 71) dX6_sorts_19 (by decide) (fun _ => ?_) (fun hn => absurd (nI_le (Nat.le_refl _) (by omega)) hn)
    exact kk _
  | succ m ih =>
    intro i hm hi
    have hin : i < n := by omega
    have hi3 : i < 2 ^ 31 := by omega
    have hk3 : k < 2 ^ 31 := by omega
    have ih := ih (i + 1) (by omega) (by omega)
    have vi : vp_in (nI i) 8 := vp_in_nI (by omega) (by omega)
    have vk : vp_in (nI k) 8 := vp_in_nI (by omega) (by omega)
    have yes : (M 1 k < M 1 i ∨ (M 1 i = M 1 k ∧ i < k)) → z_E G zX6_sorts 0 Z 58 [some (.ref (A 22 0 0)), some (.int (nI k)), some (.int (nI (z_cn M k i))), some (.int (nI i))] [.int (nI (z_cn M k i))] w 0 0 := by
      intro h
      have e : z_cn M k (i + 1) = z_cn M k i + 1 := by rw [z_cn, if_pos h]
      rw [e] at ih
      refine z_iconst_1 (pc := 58) dX6_sorts_58 ?_
      refine z_goto (pc := 59) (tgt := 63) dX6_sorts_59 (by decide) ?_
      refine z_iadd (pc := 63) dX6_sorts_63 ?_
      rw [nI_1]
      refine z_istore2 (pc := 64) dX6_sorts_64 ?_
      refine z_iinc3 (pc := 65) dX6_sorts_65 ?_
      refine z_goto (pc := 68) (tgt := 14) dX6_sorts_68 (by decide) ?_
      rw [nI_1]
      exact ih
    have no : ¬ (M 1 k < M 1 i ∨ (M 1 i = M 1 k ∧ i < k)) → z_E G zX6_sorts 0 Z 62 [some (.ref (A 22 0 0)), some (.int (nI k)), some (.int (nI (z_cn M k i))), some (.int (nI i))] [.int (nI (z_cn M k i))] w 0 0 := by
      intro h
      have e : z_cn M k (i + 1) = z_cn M k i := by rw [z_cn, if_neg h]; rfl
      rw [e] at ih
      refine z_iconst_0 (pc := 62) dX6_sorts_62 ?_
      refine z_iadd (pc := 63) dX6_sorts_63 ?_
      rw [Int32.add_zero]
      refine z_istore2 (pc := 64) dX6_sorts_64 ?_
      refine z_iinc3 (pc := 65) dX6_sorts_65 ?_
      refine z_goto (pc := 68) (tgt := 14) dX6_sorts_68 (by decide) ?_
      rw [nI_1]
      exact ih
    refine z_iload_n (pc := 14) dX6_sorts_14 rfl ?_
    refine z_aload_n (pc := 15) dX6_sorts_15 rfl (by first | rfl | exact z_isr_rf _) ?_
    refine gfX6_67 (pc := 16) rfl dX6_sorts_16 (hM.k22) rfl ?_
    rw [h0]
    refine z_icmp_ge (pc := 19) (tgt := 71) dX6_sorts_19 (by decide) (fun hn => absurd hn (nI_ge hin (by omega))) (fun _ => ?_)
    refine z_iload_n (pc := 22) dX6_sorts_22 rfl ?_
    refine z_aload_n (pc := 23) dX6_sorts_23 rfl (by first | rfl | exact z_isr_rf _) ?_
    refine gfX6_7 (pc := 24) rfl dX6_sorts_24 (hM.k22) rfl ?_
    refine z_iload_n (pc := 27) dX6_sorts_27 rfl ?_
    refine z_iald (pc := 28) dX6_sorts_28 (hM.k1) (vi) ?_
    rw [nI_clamp hi3, h1]
    refine z_aload_n (pc := 29) dX6_sorts_29 rfl (by first | rfl | exact z_isr_rf _) ?_
    refine gfX6_7 (pc := 30) rfl dX6_sorts_30 (hM.k22) rfl ?_
    refine z_iload_n (pc := 33) dX6_sorts_33 rfl ?_
    refine z_iald (pc := 34) dX6_sorts_34 (hM.k1) (vk) ?_
    rw [nI_clamp hk3, h1]
    refine z_icmp_gt (pc := 35) (tgt := 58) dX6_sorts_35 (by decide) (fun c1 => ?_) (fun c1 => ?_)
    · exact yes (Or.inl c1)
    · refine z_aload_n (pc := 38) dX6_sorts_38 rfl (by first | rfl | exact z_isr_rf _) ?_
      refine gfX6_7 (pc := 39) rfl dX6_sorts_39 (hM.k22) rfl ?_
      refine z_iload_n (pc := 42) dX6_sorts_42 rfl ?_
      refine z_iald (pc := 43) dX6_sorts_43 (hM.k1) (vi) ?_
      rw [nI_clamp hi3, h1]
      refine z_aload_n (pc := 44) dX6_sorts_44 rfl (by first | rfl | exact z_isr_rf _) ?_
      refine gfX6_7 (pc := 45) rfl dX6_sorts_45 (hM.k22) rfl ?_
      refine z_iload_n (pc := 48) dX6_sorts_48 rfl ?_
      refine z_iald (pc := 49) dX6_sorts_49 (hM.k1) (vk) ?_
      rw [nI_clamp hk3, h1]
      refine z_icmp_ne (pc := 50) (tgt := 62) dX6_sorts_50 (by decide) (fun c2 => ?_) (fun c2 => ?_)
      · exact no (fun z => z.elim c1 (fun z => c2 z.1))
      · refine z_iload_n (pc := 53) dX6_sorts_53 rfl ?_
        refine z_iload_n (pc := 54) dX6_sorts_54 rfl ?_
        refine z_icmp_ge (pc := 55) (tgt := 62) dX6_sorts_55 (by decide) (fun c3 => ?_) (fun c3 => ?_)
        · have c3 := (nI_leI (by omega) (by omega)).1 c3
          exact no (fun z => z.elim c1 (fun z => by omega))
        · have c3 : ¬ k ≤ i := fun z => c3 ((nI_leI (by omega) (by omega)).2 z)
          exact yes (Or.inr ⟨c2, by omega⟩)
theorem iX6_sorts {Z : z_Gq} {w0 : z_W} {n : Nat} (h0 : M 0 0 = nI n) (hn : n ≤ 8) (kk : ∀ w' x1 x2 x3, z_Mo G F A (z_so M n n) w' → z_fr F w0 w' → z_E G zX6_sorts 0 Z 91 [some (.ref (A 22 0 0)), x1, x2, x3] [] w' 0 0) : ∀ m i : Nat, n - i = m → i ≤ n → ∀ (w : z_W) x2 x3, z_Mo G F A (z_so M n i) w → z_fr F w0 w → z_E G zX6_sorts 0 Z 2 [some (.ref (A 22 0 0)), some (.int (nI i)), x2, x3] [] w 0 0 := by
  intro m
  induction m with
  | zero =>
    intro i hm hi w x2 x3 hM hf
    have : i = n := by omega
    subst this
    have e0 : z_so M i i 0 0 = nI i := by rw [z_so_f (by decide) (by decide)]; exact h0
    refine z_iload_n (pc := 2) dX6_sorts_2 rfl ?_
    refine z_aload_n (pc := 3) dX6_sorts_3 rfl (by first | rfl | exact z_isr_rf _) ?_
    refine gfX6_67 (pc := 4) rfl dX6_sorts_4 (hM.k22) rfl ?_
    rw [e0]
    refine z_icmp_ge (pc := 7) (tgt := 91) dX6_sorts_7 (by decide) (fun _ => ?_) (fun hn => absurd (nI_le (Nat.le_refl _) (by omega)) hn)
    exact kk _ _ _ _ hM hf
  | succ m ih =>
    intro i hm hi w x2 x3 hM hf
    have hin : i < n := by omega
    have hm1 : n - (i + 1) = m := by omega
    have hc := z_cn_lt (M := M) n hin
    have hc3 : z_cn M i n < 2 ^ 31 := by omega
    have hi3 : i < 2 ^ 31 := by omega
    have vc : vp_in (nI (z_cn M i n)) 8 := vp_in_nI (by omega) (by omega)
    have vi : vp_in (nI i) 8 := vp_in_nI (by omega) (by omega)
    have e0 : z_so M n i 0 0 = nI n := by rw [z_so_f (by decide) (by decide)]; exact h0
    refine z_iload_n (pc := 2) dX6_sorts_2 rfl ?_
    refine z_aload_n (pc := 3) dX6_sorts_3 rfl (by first | rfl | exact z_isr_rf _) ?_
    refine gfX6_67 (pc := 4) rfl dX6_sorts_4 (hM.k22) rfl ?_
    rw [e0]
    refine z_icmp_ge (pc := 7) (tgt := 91) dX6_sorts_7 (by decide) (fun hn => absurd hn (nI_ge hin (by omega))) (fun _ => ?_)
    refine z_iconst_0 (pc := 10) dX6_sorts_10 ?_
    refine z_istore2 (pc := 11) dX6_sorts_11 ?_
    refine z_iconst_0 (pc := 12) dX6_sorts_12 ?_
    refine z_istore3 (pc := 13) dX6_sorts_13 ?_
    refine iX6_sorts1 (M := M) hM e0 hn hin (z_so_f (by decide) (by decide) i) (fun y3 => ?_) n 0 rfl (Nat.zero_le _)
    refine z_aload_n (pc := 71) dX6_sorts_71 rfl (by first | rfl | exact z_isr_rf _) ?_
    refine gfX6_53 (pc := 72) rfl dX6_sorts_72 (hM.k22) rfl ?_
    refine z_iload_n (pc := 75) dX6_sorts_75 rfl ?_
    refine z_iload_n (pc := 76) dX6_sorts_76 rfl ?_
    refine z_iast (pc := 77) dX6_sorts_77 (hM.k19) (vc) ?_
    rw [nI_clamp hc3]
    refine z_genM (hM.p19 (z_cn M i n) (nI i)) (fun w2 hM2 hf2 => ?_)
    refine z_aload_n (pc := 78) dX6_sorts_78 rfl (by first | rfl | exact z_isr_rf _) ?_
    refine gfX6_56 (pc := 79) rfl dX6_sorts_79 (hM2.k22) rfl ?_
    refine z_iload_n (pc := 82) dX6_sorts_82 rfl ?_
    refine z_iconst_m1 (pc := 83) dX6_sorts_83 ?_
    refine z_iast (pc := 84) dX6_sorts_84 (hM2.k20) (vi) ?_
    rw [nI_clamp hi3]
    refine z_genM (hM2.p20 i (-1)) (fun w3 hM3 hf3 => ?_)
    refine z_iinc1 (pc := 85) dX6_sorts_85 ?_
    refine z_goto (pc := 88) (tgt := 2) dX6_sorts_88 (by decide) ?_
    rw [nI_1]
    exact ih (i + 1) hm1 hin w3 _ _ hM3 (hf.tr (hf2.tr hf3))
theorem mX6_sorts (hM : z_Mo G F A M w) {n : Nat} (h0 : M 0 0 = nI n) (hn : n ≤ 8) : z_M G zX6_sorts 0 [.ref (A 22 0 0)] w 0 0 (z_sm G F A (z_so M n n) w none) z_nx := by
  refine z_M.of (by decide +kernel) rfl (by intro v hv; simp only [List.mem_cons, List.not_mem_nil, or_false] at hv; rcases hv with rfl <;> first | rfl | exact z_isr_cat (z_isr_rf _)) (Nat.le_of_ble_eq_true rfl) ?_
  show z_E _ zX6_sorts _ _ 0 [some (.ref (A 22 0 0)), none, none, none] [] _ _ _
  refine z_iconst_0 (pc := 0) dX6_sorts_0 ?_
  refine z_istore1 (pc := 1) dX6_sorts_1 ?_
  refine iX6_sorts (w0 := w) h0 hn (fun w' x1 x2 x3 hM2 hf2 => ?_) n 0 rfl (Nat.zero_le _) w _ _ hM z_fr.rf
  refine z_vret (pc := 91) dX6_sorts_91 rfl (⟨rfl, hM2, hf2⟩)
end SO

