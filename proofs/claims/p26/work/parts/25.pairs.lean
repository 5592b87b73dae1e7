/-! pairing, the class's way -/
def z_oc (O : z_TO) (k : Nat) : z_TO := fun f => if f = 1 then (fun i => if i < k then none else O 1 i) else O f
theorem z_oc_0 (O : z_TO) : z_oc O 0 = O := by
  funext f i
  unfold z_oc
  by_cases h : f = 1
  · rw [if_pos h, h]; exact if_neg (Nat.not_lt_zero _)
  · rw [if_neg h]
theorem z_oc_s (O : z_TO) (k : Nat) : z_oc O (k + 1) = z_sO (z_oc O k) 1 k none := by
  funext f i
  unfold z_oc z_sO
  by_cases h : f = 1
  · subst h
    rw [if_pos rfl, if_pos rfl]
    by_cases h2 : i = k
    · rw [if_pos h2]; exact if_pos (by omega)
    · rw [if_neg h2]
      dsimp only
      rw [if_pos rfl]
      by_cases h3 : i < k
      · rw [if_pos h3, if_pos (by omega)]
      · rw [if_neg h3, if_neg (by omega)]
  · rw [if_neg h, if_neg h]
    show O f i = (if f = 1 then (fun i => if i < k then none else O 1 i) else O f) i
    rw [if_neg h]
noncomputable def z_fu (I : z_TI) (N : z_TN) (O : z_TO) : Nat → Option Nat
  | 0 => none
  | k + 1 => @ite _ (k < N 6 0 ∧ O 1 k = none ∧ ah I k (z_fu I N O k)) (Classical.propDecidable _) (some k) (z_fu I N O k)
noncomputable def z_pf1 (I : z_TI) (N : z_TN) (O : z_TO) (a : Nat) : Nat → Option Nat
  | 0 => none
  | k + 1 => @ite _ (k < N 6 0 ∧ k ≠ a ∧ O 1 k = none ∧ ah I k (z_pf1 I N O a k)) (Classical.propDecidable _) (some k) (z_pf1 I N O a k)
noncomputable def z_pf2 (I : z_TI) (N : z_TN) (O : z_TO) (a : Nat) : Nat → Option Nat
  | 0 => none
  | k + 1 => @ite _ (k < N 6 0 ∧ k ≠ a ∧ O 1 k = none ∧ I 5 a k = 0 ∧ ah I k (z_pf2 I N O a k)) (Classical.propDecidable _) (some k) (z_pf2 I N O a k)
theorem z_fu_lt {I : z_TI} {N : z_TN} {O : z_TO} : ∀ {k p : Nat}, z_fu I N O k = some p → p < N 6 0 ∧ O 1 p = none
  | 0, p, h => by cases h
  | k + 1, p, h => by
    unfold z_fu at h
    by_cases q : k < N 6 0 ∧ O 1 k = none ∧ ah I k (z_fu I N O k)
    · rw [if_pos q] at h
      cases h
      exact ⟨q.1, q.2.1⟩
    · rw [if_neg q] at h
      exact z_fu_lt h
theorem z_pf1_lt {I : z_TI} {N : z_TN} {O : z_TO} {a : Nat} : ∀ {k p : Nat}, z_pf1 I N O a k = some p → p < N 6 0 ∧ p ≠ a ∧ O 1 p = none
  | 0, p, h => by cases h
  | k + 1, p, h => by
    unfold z_pf1 at h
    by_cases q : k < N 6 0 ∧ k ≠ a ∧ O 1 k = none ∧ ah I k (z_pf1 I N O a k)
    · rw [if_pos q] at h
      cases h
      exact ⟨q.1, q.2.1, q.2.2.1⟩
    · rw [if_neg q] at h
      exact z_pf1_lt h
theorem z_pf2_lt {I : z_TI} {N : z_TN} {O : z_TO} {a : Nat} : ∀ {k p : Nat}, z_pf2 I N O a k = some p → p < N 6 0 ∧ p ≠ a ∧ O 1 p = none ∧ I 5 a p = 0
  | 0, p, h => by cases h
  | k + 1, p, h => by
    unfold z_pf2 at h
    by_cases q : k < N 6 0 ∧ k ≠ a ∧ O 1 k = none ∧ I 5 a k = 0 ∧ ah I k (z_pf2 I N O a k)
    · rw [if_pos q] at h
      cases h
      exact ⟨q.1, q.2.1, q.2.2.1, q.2.2.2.1⟩
    · rw [if_neg q] at h
      exact z_pf2_lt h
noncomputable def z_pf (I : z_TI) (N : z_TN) (O : z_TO) (a : Nat) : Option Nat := match z_pf2 I N O a 8 with | none => z_pf1 I N O a 8 | some b => some b
theorem z_pf_lt {I : z_TI} {N : z_TN} {O : z_TO} {a p : Nat} (h : z_pf I N O a = some p) : p < N 6 0 ∧ p ≠ a ∧ O 1 p = none := by
  unfold z_pf at h
  cases h2 : z_pf2 I N O a 8 with
  | none => rw [h2] at h; exact z_pf1_lt h
  | some b =>
    rw [h2] at h
    cases h
    have := z_pf2_lt h2
    exact ⟨this.1, this.2.1, this.2.2.1⟩
noncomputable def z_pr (I : z_TI) (N : z_TN) : Nat → z_TO → z_TO
  | 0, O => O
  | m + 1, O => match z_fu I N O 8 with
    | none => O
    | some a => match z_pf I N O a with
      | none => O
      | some b => z_pr I N m (z_sO (z_sO O 1 a (some b)) 1 b (some a))
section PRS
variable {G : z_G} {F : Nat → Prop} {A : z_TA} {I : z_TI} {N : z_TN} {O : z_TO} {B : z_TB} {w : z_W}
theorem iX5_firstUnpaired {QX} (hC : z_C G F A I N O B w) (h8 : N 6 0 ≤ 8) : ∀ m i : Nat, 8 - i = m → i ≤ 8 → ∀ x5, z_E G zX5_firstUnpaired 1 (z_mq G (z_rp (va_rf ((z_fu I N O 8).map (fun p => A 5 p 0))) w) QX) 13 [some (.ref (A 0 0 0)), some (va_rf ((z_fu I N O i).map (fun p => A 5 p 0))), some (.ref (A 1 0 0)), some (.int (nI 8)), some (.int (nI i)), x5] [] w 0 0 := by
  intro m
  induction m with
  | zero =>
    intro i hm hi x5
    have : i = 8 := by omega
    subst this
    refine z_iload (pc := 13) dX5_firstUnpaired_13 rfl ?_
    refine z_iload_n (pc := 15) dX5_firstUnpaired_15 rfl ?_
    refine z_icmp_ge (pc := 16) (tgt := 56) dX5_firstUnpaired_16 (by decide) (fun _ => ?_) (fun hn => absurd (nI_le (Nat.le_refl _) (by omega)) hn)
    refine z_aload_n (pc := 56) dX5_firstUnpaired_56 rfl (by first | rfl | exact z_isr_rf _) ?_
    refine z_aret (pc := 57) dX5_firstUnpaired_57 rfl (by first | rfl | exact z_isr_rf _) (⟨rfl, rfl⟩)
  | succ m ih =>
    intro i hm hi x5
    have hin : i < 8 := by omega
    have hi3 : i < 2 ^ 31 := by omega
    have ih := ih (i + 1) (by omega) (by omega)
    refine z_iload (pc := 13) dX5_firstUnpaired_13 rfl ?_
    refine z_iload_n (pc := 15) dX5_firstUnpaired_15 rfl ?_
    refine z_icmp_ge (pc := 16) (tgt := 56) dX5_firstUnpaired_16 (by decide) (fun hn => absurd hn (nI_ge hin (by omega))) (fun _ => ?_)
    refine z_aload_n (pc := 19) dX5_firstUnpaired_19 rfl (by first | rfl | exact z_isr_rf _) ?_
    refine z_iload (pc := 20) dX5_firstUnpaired_20 rfl ?_
    refine z_aaldP (pc := 22) dX5_firstUnpaired_22 (hC.k1) (vp_in_nI hin (by omega)) ?_
    rw [nI_clamp hi3]
    have hno : ¬ (i < N 6 0 ∧ O 1 i = none ∧ ah I i (z_fu I N O i)) → ∀ x5, z_E G zX5_firstUnpaired 1 (z_mq G (z_rp (va_rf ((z_fu I N O 8).map (fun p => A 5 p 0))) w) QX) 50 [some (.ref (A 0 0 0)), some (va_rf ((z_fu I N O i).map (fun p => A 5 p 0))), some (.ref (A 1 0 0)), some (.int (nI 8)), some (.int (nI i)), x5] [] w 0 0 := by
      intro h x5
      have e : z_fu I N O (i + 1) = z_fu I N O i := by
        rw [z_fu]
        exact if_neg h
      rw [e] at ih
      refine z_iinc4 (pc := 50) dX5_firstUnpaired_50 ?_
      refine z_goto (pc := 53) (tgt := 13) dX5_firstUnpaired_53 (by decide) ?_
      rw [nI_1]
      exact ih _
    by_cases hp : i < N 6 0
    · rw [if_pos hp]
      refine z_astore5 (pc := 23) dX5_firstUnpaired_23 (by first | rfl | exact z_isr_rf _) ?_
      refine z_aload (pc := 25) dX5_firstUnpaired_25 rfl (by first | rfl | exact z_isr_rf _) ?_
      refine z_ifnull (pc := 27) (tgt := 50) dX5_firstUnpaired_27 (by decide) (by first | rfl | exact z_isr_rf _) (fun hn => by cases hn) (fun _ _ => ?_)
      have k5 := hC.k5 hp
      cases ho : O 1 i with
      | some b =>
        rw [ho] at k5
        refine z_aload (pc := 30) dX5_firstUnpaired_30 rfl (by first | rfl | exact z_isr_rf _) ?_
        refine gfX5_198 (pc := 32) rfl dX5_firstUnpaired_32 (k5) rfl ?_
        refine z_ifnonnull (pc := 35) (tgt := 50) dX5_firstUnpaired_35 (by decide) (by first | rfl | exact z_isr_rf _) (fun _ _ => ?_) (fun hn => by cases hn)
        exact hno (fun h => by rw [ho] at h; cases h.2.1) _
      | none =>
        rw [ho] at k5
        refine z_aload (pc := 30) dX5_firstUnpaired_30 rfl (by first | rfl | exact z_isr_rf _) ?_
        refine gfX5_198 (pc := 32) rfl dX5_firstUnpaired_32 (k5) rfl ?_
        refine z_ifnonnull (pc := 35) (tgt := 50) dX5_firstUnpaired_35 (by decide) (by first | rfl | exact z_isr_rf _) (fun _ hn => by cases hn) (fun _ => ?_)
        haveI : Decidable (ah I i (z_fu I N O i)) := Classical.propDecidable _
        refine z_aload (pc := 38) dX5_firstUnpaired_38 rfl (by first | rfl | exact z_isr_rf _) ?_
        refine z_aload_n (pc := 40) dX5_firstUnpaired_40 rfl (by first | rfl | exact z_isr_rf _) ?_
        refine z_callVp (pc := 41) (mX3_standsAheadOf hC hp (q := z_fu I N O i) (fun q' h => (z_fu_lt h).1) h8) dX5_firstUnpaired_41 cwX5_250 okX3_standsAheadOf rfl (hC.k5 hp) rfl rfl (by omega) rfl (Nat.le_of_ble_eq_true rfl) ?_
        by_cases ha : ah I i (z_fu I N O i)
        · rw [if_pos ha]
          refine z_if_eq (pc := 44) (tgt := 50) dX5_firstUnpaired_44 (by decide) (fun hn => absurd hn ((by decide : ¬ (1 : Int32) = 0))) (fun _ => ?_)
          have e : z_fu I N O (i + 1) = some i := by
            rw [z_fu]
            exact if_pos ⟨hp, ho, ha⟩
          rw [e] at ih
          refine z_aload (pc := 47) dX5_firstUnpaired_47 rfl (by first | rfl | exact z_isr_rf _) ?_
          refine z_astore1 (pc := 49) dX5_firstUnpaired_49 (by first | rfl | exact z_isr_rf _) ?_
          refine z_iinc4 (pc := 50) dX5_firstUnpaired_50 ?_
          refine z_goto (pc := 53) (tgt := 13) dX5_firstUnpaired_53 (by decide) ?_
          rw [nI_1]
          exact ih _
        · rw [if_neg ha]
          refine z_if_eq (pc := 44) (tgt := 50) dX5_firstUnpaired_44 (by decide) (fun _ => ?_) (fun hn => absurd (rfl) hn)
          exact hno (fun h => ha h.2.2) _
    · rw [if_neg hp]
      refine z_astore5 (pc := 23) dX5_firstUnpaired_23 (by first | rfl | exact z_isr_rf _) ?_
      refine z_aload (pc := 25) dX5_firstUnpaired_25 rfl (by first | rfl | exact z_isr_rf _) ?_
      refine z_ifnull (pc := 27) (tgt := 50) dX5_firstUnpaired_27 (by decide) (by first | rfl | exact z_isr_rf _) (fun _ => ?_) (fun _ hn => by cases hn)
      exact hno (fun h => hp h.1) _
theorem mX5_firstUnpaired (hC : z_C G F A I N O B w) (h8 : N 6 0 ≤ 8) : z_M G zX5_firstUnpaired 1 [.ref (A 0 0 0)] w 0 0 (z_rp (va_rf ((z_fu I N O 8).map (fun p => A 5 p 0))) w) z_nx := by
  refine z_M.of (by decide +kernel) rfl (by intro v hv; simp only [List.mem_cons, List.not_mem_nil, or_false] at hv; rcases hv with rfl <;> first | rfl | exact z_isr_cat (z_isr_rf _)) (Nat.le_of_ble_eq_true rfl) ?_
  show z_E _ zX5_firstUnpaired _ _ 0 [some (.ref (A 0 0 0)), none, none, none, none, none] [] _ _ _
  refine z_null (pc := 0) dX5_firstUnpaired_0 ?_
  refine z_astore1 (pc := 1) dX5_firstUnpaired_1 (by first | rfl | exact z_isr_rf _) ?_
  refine z_aload_n (pc := 2) dX5_firstUnpaired_2 rfl (by first | rfl | exact z_isr_rf _) ?_
  refine gfX5_11 (pc := 3) rfl dX5_firstUnpaired_3 (hC.k0) rfl ?_
  refine z_astore2 (pc := 6) dX5_firstUnpaired_6 (by first | rfl | exact z_isr_rf _) ?_
  refine z_aload_n (pc := 7) dX5_firstUnpaired_7 rfl (by first | rfl | exact z_isr_rf _) ?_
  refine z_alen (pc := 8) dX5_firstUnpaired_8 (hC.k1) rfl rfl ?_
  refine z_istore3 (pc := 9) dX5_firstUnpaired_9 ?_
  refine z_iconst_0 (pc := 10) dX5_firstUnpaired_10 ?_
  refine z_istore4 (pc := 11) dX5_firstUnpaired_11 ?_
  exact iX5_firstUnpaired hC h8 8 0 rfl (by omega) _
theorem iX5_partnerFor {QX} (hC : z_C G F A I N O B w) (h8 : N 6 0 ≤ 8) {a : Nat} (ha : a < N 6 0) : ∀ m i : Nat, 8 - i = m → i ≤ 8 → ∀ x7, z_E G zX5_partnerFor 1 (z_mq G (z_rp (va_rf ((z_pf I N O a).map (fun p => A 5 p 0))) w) QX) 18 [some (.ref (A 0 0 0)), some (.ref (A 5 a 0)), some (va_rf ((z_pf1 I N O a i).map (fun p => A 5 p 0))), some (va_rf ((z_pf2 I N O a i).map (fun p => A 5 p 0))), some (.ref (A 1 0 0)), some (.int (nI 8)), some (.int (nI i)), x7] [] w 0 0 := by
  intro m
  induction m with
  | zero =>
    intro i hm hi x7
    have : i = 8 := by omega
    subst this
    refine z_iload (pc := 18) dX5_partnerFor_18 rfl ?_
    refine z_iload (pc := 20) dX5_partnerFor_20 rfl ?_
    refine z_icmp_ge (pc := 22) (tgt := 93) dX5_partnerFor_22 (by decide) (fun _ => ?_) (fun hn => absurd (nI_le (Nat.le_refl _) (by omega)) hn)
    cases h2 : z_pf2 I N O a 8 with
    | none =>
      have e : z_pf I N O a = z_pf1 I N O a 8 := by unfold z_pf; rw [h2]
      refine z_aload_n (pc := 93) dX5_partnerFor_93 rfl (by first | rfl | exact z_isr_rf _) ?_
      refine z_ifnonnull (pc := 94) (tgt := 101) dX5_partnerFor_94 (by decide) (by first | rfl | exact z_isr_rf _) (fun _ hn => by cases hn) (fun _ => ?_)
      refine z_aload_n (pc := 97) dX5_partnerFor_97 rfl (by first | rfl | exact z_isr_rf _) ?_
      refine z_goto (pc := 98) (tgt := 102) dX5_partnerFor_98 (by decide) ?_
      refine z_aret (pc := 102) dX5_partnerFor_102 rfl (by first | rfl | exact z_isr_rf _) (⟨by rw [e], rfl⟩)
    | some b =>
      have e : z_pf I N O a = some b := by unfold z_pf; rw [h2]
      refine z_aload_n (pc := 93) dX5_partnerFor_93 rfl (by first | rfl | exact z_isr_rf _) ?_
      refine z_ifnonnull (pc := 94) (tgt := 101) dX5_partnerFor_94 (by decide) (by first | rfl | exact z_isr_rf _) (fun _ _ => ?_) (fun hn => by cases hn)
      refine z_aload_n (pc := 101) dX5_partnerFor_101 rfl (by first | rfl | exact z_isr_rf _) ?_
      refine z_aret (pc := 102) dX5_partnerFor_102 rfl (by first | rfl | exact z_isr_rf _) (⟨by rw [e], rfl⟩)
  | succ m ih =>
    intro i hm hi x7
    have hin : i < 8 := by omega
    have hi3 : i < 2 ^ 31 := by omega
    have ih := ih (i + 1) (by omega) (by omega)
    refine z_iload (pc := 18) dX5_partnerFor_18 rfl ?_
    refine z_iload (pc := 20) dX5_partnerFor_20 rfl ?_
    refine z_icmp_ge (pc := 22) (tgt := 93) dX5_partnerFor_22 (by decide) (fun hn => absurd hn (nI_ge hin (by omega))) (fun _ => ?_)
    refine z_aload (pc := 25) dX5_partnerFor_25 rfl (by first | rfl | exact z_isr_rf _) ?_
    refine z_iload (pc := 27) dX5_partnerFor_27 rfl ?_
    refine z_aaldP (pc := 29) dX5_partnerFor_29 (hC.k1) (vp_in_nI hin (by omega)) ?_
    rw [nI_clamp hi3]
    have hgo : ∀ x7, z_E G zX5_partnerFor 1 (z_mq G (z_rp (va_rf ((z_pf I N O a).map (fun p => A 5 p 0))) w) QX) 87 [some (.ref (A 0 0 0)), some (.ref (A 5 a 0)), some (va_rf ((z_pf1 I N O a (i + 1)).map (fun p => A 5 p 0))), some (va_rf ((z_pf2 I N O a (i + 1)).map (fun p => A 5 p 0))), some (.ref (A 1 0 0)), some (.int (nI 8)), some (.int (nI i)), x7] [] w 0 0 := by
      intro x7
      refine z_iinc6 (pc := 87) dX5_partnerFor_87 ?_
      refine z_goto (pc := 90) (tgt := 18) dX5_partnerFor_90 (by decide) ?_
      rw [nI_1]
      exact ih _
    have hno : ¬ (i < N 6 0 ∧ i ≠ a ∧ O 1 i = none) → ∀ x7, z_E G zX5_partnerFor 1 (z_mq G (z_rp (va_rf ((z_pf I N O a).map (fun p => A 5 p 0))) w) QX) 87 [some (.ref (A 0 0 0)), some (.ref (A 5 a 0)), some (va_rf ((z_pf1 I N O a i).map (fun p => A 5 p 0))), some (va_rf ((z_pf2 I N O a i).map (fun p => A 5 p 0))), some (.ref (A 1 0 0)), some (.int (nI 8)), some (.int (nI i)), x7] [] w 0 0 := by
      intro h x7
      have e1 : z_pf1 I N O a (i + 1) = z_pf1 I N O a i := by
        rw [z_pf1]
        exact if_neg (fun q => h ⟨q.1, q.2.1, q.2.2.1⟩)
      have e2 : z_pf2 I N O a (i + 1) = z_pf2 I N O a i := by
        rw [z_pf2]
        exact if_neg (fun q => h ⟨q.1, q.2.1, q.2.2.1⟩)
      have := hgo x7
      rw [e1, e2] at this
      exact this
    by_cases hp : i < N 6 0
    · rw [if_pos hp]
      refine z_astore7 (pc := 30) dX5_partnerFor_30 (by first | rfl | exact z_isr_rf _) ?_
      refine z_aload (pc := 32) dX5_partnerFor_32 rfl (by first | rfl | exact z_isr_rf _) ?_
      refine z_ifnull (pc := 34) (tgt := 87) dX5_partnerFor_34 (by decide) (by first | rfl | exact z_isr_rf _) (fun hn => by cases hn) (fun _ _ => ?_)
      refine z_aload (pc := 37) dX5_partnerFor_37 rfl (by first | rfl | exact z_isr_rf _) ?_
      refine z_aload_n (pc := 39) dX5_partnerFor_39 rfl (by first | rfl | exact z_isr_rf _) ?_
      refine z_acmp_eq (pc := 40) (tgt := 87) dX5_partnerFor_40 (by decide) (by first | rfl | exact z_isr_rf _) (by first | rfl | exact z_isr_rf _) (fun hac => ?_) (fun hac => ?_)
      · have hia : i = a := by
          have := hC.2.1 5 i 0 5 a 0 ⟨hp, rfl⟩ ⟨ha, rfl⟩ (by injection hac)
          exact this.2.1
        exact hno (fun h => h.2.1 hia) _
      · have hia : i ≠ a := fun h => hac (by rw [h]; rfl)
        have k5 := hC.k5 hp
        cases ho : O 1 i with
        | some b =>
          rw [ho] at k5
          refine z_aload (pc := 43) dX5_partnerFor_43 rfl (by first | rfl | exact z_isr_rf _) ?_
          refine gfX5_198 (pc := 45) rfl dX5_partnerFor_45 (k5) rfl ?_
          refine z_ifnull (pc := 48) (tgt := 54) dX5_partnerFor_48 (by decide) (by first | rfl | exact z_isr_rf _) (fun hn => by cases hn) (fun _ _ => ?_)
          refine z_goto (pc := 51) (tgt := 87) dX5_partnerFor_51 (by decide) ?_
          exact hno (fun h => by rw [ho] at h; cases h.2.2) _
        | none =>
          rw [ho] at k5
          refine z_aload (pc := 43) dX5_partnerFor_43 rfl (by first | rfl | exact z_isr_rf _) ?_
          refine gfX5_198 (pc := 45) rfl dX5_partnerFor_45 (k5) rfl ?_
          refine z_ifnull (pc := 48) (tgt := 54) dX5_partnerFor_48 (by decide) (by first | rfl | exact z_isr_rf _) (fun _ => ?_) (fun _ hn => by cases hn)
          haveI : Decidable (ah I i (z_pf1 I N O a i)) := Classical.propDecidable _
          refine z_aload (pc := 54) dX5_partnerFor_54 rfl (by first | rfl | exact z_isr_rf _) ?_
          refine z_aload_n (pc := 56) dX5_partnerFor_56 rfl (by first | rfl | exact z_isr_rf _) ?_
          refine z_callVp (pc := 57) (mX3_standsAheadOf hC hp (q := z_pf1 I N O a i) (fun q' h => (z_pf1_lt h).1) h8) dX5_partnerFor_57 cwX5_250 okX3_standsAheadOf rfl (hC.k5 hp) rfl rfl (by omega) rfl (Nat.le_of_ble_eq_true rfl) ?_
          have h66 : z_E G zX5_partnerFor 1 (z_mq G (z_rp (va_rf ((z_pf I N O a).map (fun p => A 5 p 0))) w) QX) 66 [some (.ref (A 0 0 0)), some (.ref (A 5 a 0)), some (va_rf ((z_pf1 I N O a (i + 1)).map (fun p => A 5 p 0))), some (va_rf ((z_pf2 I N O a i).map (fun p => A 5 p 0))), some (.ref (A 1 0 0)), some (.int (nI 8)), some (.int (nI i)), some (.ref (A 5 i 0))] [] w 0 0 := by
            refine z_aload_n (pc := 66) dX5_partnerFor_66 rfl (by first | rfl | exact z_isr_rf _) ?_
            refine z_aload (pc := 67) dX5_partnerFor_67 rfl (by first | rfl | exact z_isr_rf _) ?_
            refine z_callVp (pc := 69) (mX3_hasMet hC ha hp h8) dX5_partnerFor_69 cwX5_254 okX3_hasMet rfl (hC.k5 ha) rfl rfl (by omega) rfl (Nat.le_of_ble_eq_true rfl) ?_
            by_cases hm5 : I 5 a i = 0
            · rw [if_pos hm5]
              refine z_if_ne (pc := 72) (tgt := 87) dX5_partnerFor_72 (by decide) (fun hn => absurd (rfl) hn) (fun _ => ?_)
              haveI : Decidable (ah I i (z_pf2 I N O a i)) := Classical.propDecidable _
              refine z_aload (pc := 75) dX5_partnerFor_75 rfl (by first | rfl | exact z_isr_rf _) ?_
              refine z_aload_n (pc := 77) dX5_partnerFor_77 rfl (by first | rfl | exact z_isr_rf _) ?_
              refine z_callVp (pc := 78) (mX3_standsAheadOf hC hp (q := z_pf2 I N O a i) (fun q' h => (z_pf2_lt h).1) h8) dX5_partnerFor_78 cwX5_250 okX3_standsAheadOf rfl (hC.k5 hp) rfl rfl (by omega) rfl (Nat.le_of_ble_eq_true rfl) ?_
              by_cases hh : ah I i (z_pf2 I N O a i)
              · rw [if_pos hh]
                refine z_if_eq (pc := 81) (tgt := 87) dX5_partnerFor_81 (by decide) (fun hn => absurd hn ((by decide : ¬ (1 : Int32) = 0))) (fun _ => ?_)
                have e2 : z_pf2 I N O a (i + 1) = some i := by
                  rw [z_pf2]
                  exact if_pos ⟨hp, hia, ho, hm5, hh⟩
                rw [e2] at hgo
                refine z_aload (pc := 84) dX5_partnerFor_84 rfl (by first | rfl | exact z_isr_rf _) ?_
                refine z_astore3 (pc := 86) dX5_partnerFor_86 (by first | rfl | exact z_isr_rf _) ?_
                exact hgo _
              · rw [if_neg hh]
                refine z_if_eq (pc := 81) (tgt := 87) dX5_partnerFor_81 (by decide) (fun _ => ?_) (fun hn => absurd (rfl) hn)
                have e2 : z_pf2 I N O a (i + 1) = z_pf2 I N O a i := by
                  rw [z_pf2]
                  exact if_neg (fun q => hh q.2.2.2.2)
                rw [e2] at hgo
                exact hgo _
            · rw [if_neg hm5]
              refine z_if_ne (pc := 72) (tgt := 87) dX5_partnerFor_72 (by decide) (fun _ => ?_) (fun hn => absurd hn ((by decide : ¬ (1 : Int32) = 0)))
              have e2 : z_pf2 I N O a (i + 1) = z_pf2 I N O a i := by
                rw [z_pf2]
                exact if_neg (fun q => hm5 q.2.2.2.1)
              rw [e2] at hgo
              exact hgo _
          by_cases hh : ah I i (z_pf1 I N O a i)
          · rw [if_pos hh]
            refine z_if_eq (pc := 60) (tgt := 66) dX5_partnerFor_60 (by decide) (fun hn => absurd hn ((by decide : ¬ (1 : Int32) = 0))) (fun _ => ?_)
            have e1 : z_pf1 I N O a (i + 1) = some i := by
              rw [z_pf1]
              exact if_pos ⟨hp, hia, ho, hh⟩
            rw [e1] at h66
            refine z_aload (pc := 63) dX5_partnerFor_63 rfl (by first | rfl | exact z_isr_rf _) ?_
            refine z_astore2 (pc := 65) dX5_partnerFor_65 (by first | rfl | exact z_isr_rf _) ?_
            exact h66
          · rw [if_neg hh]
            refine z_if_eq (pc := 60) (tgt := 66) dX5_partnerFor_60 (by decide) (fun _ => ?_) (fun hn => absurd (rfl) hn)
            have e1 : z_pf1 I N O a (i + 1) = z_pf1 I N O a i := by
              rw [z_pf1]
              exact if_neg (fun q => hh q.2.2.2)
            rw [e1] at h66
            exact h66
    · rw [if_neg hp]
      refine z_astore7 (pc := 30) dX5_partnerFor_30 (by first | rfl | exact z_isr_rf _) ?_
      refine z_aload (pc := 32) dX5_partnerFor_32 rfl (by first | rfl | exact z_isr_rf _) ?_
      refine z_ifnull (pc := 34) (tgt := 87) dX5_partnerFor_34 (by decide) (by first | rfl | exact z_isr_rf _) (fun _ => ?_) (fun _ hn => by cases hn)
      exact hno (fun h => hp h.1) _
theorem mX5_partnerFor (hC : z_C G F A I N O B w) (h8 : N 6 0 ≤ 8) {a : Nat} (ha : a < N 6 0) : z_M G zX5_partnerFor 1 [.ref (A 0 0 0), .ref (A 5 a 0)] w 0 0 (z_rp (va_rf ((z_pf I N O a).map (fun p => A 5 p 0))) w) z_nx := by
  refine z_M.of (by decide +kernel) rfl (by intro v hv; simp only [List.mem_cons, List.not_mem_nil, or_false] at hv; rcases hv with rfl | rfl <;> first | rfl | exact z_isr_cat (z_isr_rf _)) (Nat.le_of_ble_eq_true rfl) ?_
  show z_E _ zX5_partnerFor _ _ 0 [some (.ref (A 0 0 0)), some (.ref (A 5 a 0)), none, none, none, none, none, none] [] _ _ _
  refine z_null (pc := 0) dX5_partnerFor_0 ?_
  refine z_astore2 (pc := 1) dX5_partnerFor_1 (by first | rfl | exact z_isr_rf _) ?_
  refine z_null (pc := 2) dX5_partnerFor_2 ?_
  refine z_astore3 (pc := 3) dX5_partnerFor_3 (by first | rfl | exact z_isr_rf _) ?_
  refine z_aload_n (pc := 4) dX5_partnerFor_4 rfl (by first | rfl | exact z_isr_rf _) ?_
  refine gfX5_11 (pc := 5) rfl dX5_partnerFor_5 (hC.k0) rfl ?_
  refine z_astore4 (pc := 8) dX5_partnerFor_8 (by first | rfl | exact z_isr_rf _) ?_
  refine z_aload (pc := 10) dX5_partnerFor_10 rfl (by first | rfl | exact z_isr_rf _) ?_
  refine z_alen (pc := 12) dX5_partnerFor_12 (hC.k1) rfl rfl ?_
  refine z_istore5 (pc := 13) dX5_partnerFor_13 ?_
  refine z_iconst_0 (pc := 15) dX5_partnerFor_15 ?_
  refine z_istore6 (pc := 16) dX5_partnerFor_16 ?_
  exact iX5_partnerFor hC h8 ha 8 0 rfl (by omega) _
theorem iX5_pair2 {QX} {w0 : z_W} {O9 : z_TO} (h8 : N 6 0 ≤ 8) : ∀ m i : Nat, 4 - i = m → i ≤ 4 → ∀ (O : z_TO) (w : z_W) (x2 x3 x4 : Option Value), z_C G F A I N O B w → z_fr F w0 w → z_pr I N m O = O9 → z_E G zX5_pairPlayers 2 (z_mq G (fun v w' => v = none ∧ z_fr F w0 w' ∧ z_C G F A I N O9 B w') QX) 39 [some (.ref (A 0 0 0)), some (.int (nI i)), x2, x3, x4] [] w 0 0 := by
  intro m
  induction m with
  | zero =>
    intro i hm hi O w x2 x3 x4 hC hf hO
    have : i = 4 := by omega
    subst this
    subst hO
    refine z_iload_n (pc := 39) dX5_pairPlayers_39 rfl ?_
    refine z_iconst_4 (pc := 40) dX5_pairPlayers_40 ?_
    refine z_icmp_ge (pc := 41) (tgt := 88) dX5_pairPlayers_41 (by decide) (fun _ => ?_) (fun hn => absurd (nI_le (a := 4) (b := 4) (Nat.le_refl _) (by omega)) hn)
    refine z_vret (pc := 88) dX5_pairPlayers_88 rfl (⟨rfl, hf, hC⟩)
  | succ m ih =>
    intro i hm hi O w x2 x3 x4 hC hf hO
    have hin : i < 4 := by omega
    refine z_iload_n (pc := 39) dX5_pairPlayers_39 rfl ?_
    refine z_iconst_4 (pc := 40) dX5_pairPlayers_40 ?_
    refine z_icmp_ge (pc := 41) (tgt := 88) dX5_pairPlayers_41 (by decide) (fun hn => absurd hn (nI_ge (a := i) (b := 4) hin (by omega))) (fun _ => ?_)
    refine z_aload_n (pc := 44) dX5_pairPlayers_44 rfl (by first | rfl | exact z_isr_rf _) ?_
    refine z_callVp (pc := 45) (mX5_firstUnpaired hC h8) dX5_pairPlayers_45 cwX5_242 okX5_firstUnpaired rfl (hC.k0) rfl rfl (by omega) rfl (Nat.le_of_ble_eq_true rfl) ?_
    rw [z_pr] at hO
    cases hfu : z_fu I N O 8 with
    | none =>
      rw [hfu] at hO
      subst hO
      refine z_astore2 (pc := 48) dX5_pairPlayers_48 (by first | rfl | exact z_isr_rf _) ?_
      refine z_aload_n (pc := 49) dX5_pairPlayers_49 rfl (by first | rfl | exact z_isr_rf _) ?_
      refine z_ifnonnull (pc := 50) (tgt := 57) dX5_pairPlayers_50 (by decide) (by first | rfl | exact z_isr_rf _) (fun _ hn => by cases hn) (fun _ => ?_)
      refine z_null (pc := 53) dX5_pairPlayers_53 ?_
      refine z_goto (pc := 54) (tgt := 62) dX5_pairPlayers_54 (by decide) ?_
      refine z_astore3 (pc := 62) dX5_pairPlayers_62 (by first | rfl | exact z_isr_rf _) ?_
      refine z_aload_n (pc := 63) dX5_pairPlayers_63 rfl (by first | rfl | exact z_isr_rf _) ?_
      refine z_ifnull (pc := 64) (tgt := 71) dX5_pairPlayers_64 (by decide) (by first | rfl | exact z_isr_rf _) (fun _ => ?_) (fun _ hn => by cases hn)
      refine z_vret (pc := 71) dX5_pairPlayers_71 rfl (⟨rfl, hf, hC⟩)
    | some a =>
      rw [hfu] at hO
      have ha := (z_fu_lt hfu).1
      refine z_astore2 (pc := 48) dX5_pairPlayers_48 (by first | rfl | exact z_isr_rf _) ?_
      refine z_aload_n (pc := 49) dX5_pairPlayers_49 rfl (by first | rfl | exact z_isr_rf _) ?_
      refine z_ifnonnull (pc := 50) (tgt := 57) dX5_pairPlayers_50 (by decide) (by first | rfl | exact z_isr_rf _) (fun _ _ => ?_) (fun hn => by cases hn)
      refine z_aload_n (pc := 57) dX5_pairPlayers_57 rfl (by first | rfl | exact z_isr_rf _) ?_
      refine z_aload_n (pc := 58) dX5_pairPlayers_58 rfl (by first | rfl | exact z_isr_rf _) ?_
      refine z_callVp (pc := 59) (mX5_partnerFor hC h8 ha) dX5_pairPlayers_59 cwX5_246 okX5_partnerFor rfl (hC.k0) rfl rfl (by omega) rfl (Nat.le_of_ble_eq_true rfl) ?_
      cases hpf : z_pf I N O a with
      | none =>
        dsimp only at hO
        rw [hpf] at hO
        subst hO
        refine z_astore3 (pc := 62) dX5_pairPlayers_62 (by first | rfl | exact z_isr_rf _) ?_
        refine z_aload_n (pc := 63) dX5_pairPlayers_63 rfl (by first | rfl | exact z_isr_rf _) ?_
        refine z_ifnull (pc := 64) (tgt := 71) dX5_pairPlayers_64 (by decide) (by first | rfl | exact z_isr_rf _) (fun hn => by cases hn) (fun _ _ => ?_)
        refine z_aload_n (pc := 67) dX5_pairPlayers_67 rfl (by first | rfl | exact z_isr_rf _) ?_
        refine z_ifnonnull (pc := 68) (tgt := 72) dX5_pairPlayers_68 (by decide) (by first | rfl | exact z_isr_rf _) (fun _ hn => by cases hn) (fun _ => ?_)
        refine z_vret (pc := 71) dX5_pairPlayers_71 rfl (⟨rfl, hf, hC⟩)
      | some b =>
        dsimp only at hO
        rw [hpf] at hO
        have hb := (z_pf_lt hpf).1
        refine z_astore3 (pc := 62) dX5_pairPlayers_62 (by first | rfl | exact z_isr_rf _) ?_
        refine z_aload_n (pc := 63) dX5_pairPlayers_63 rfl (by first | rfl | exact z_isr_rf _) ?_
        refine z_ifnull (pc := 64) (tgt := 71) dX5_pairPlayers_64 (by decide) (by first | rfl | exact z_isr_rf _) (fun hn => by cases hn) (fun _ _ => ?_)
        refine z_aload_n (pc := 67) dX5_pairPlayers_67 rfl (by first | rfl | exact z_isr_rf _) ?_
        refine z_ifnonnull (pc := 68) (tgt := 72) dX5_pairPlayers_68 (by decide) (by first | rfl | exact z_isr_rf _) (fun _ _ => ?_) (fun hn => by cases hn)
        refine z_aload_n (pc := 72) dX5_pairPlayers_72 rfl (by first | rfl | exact z_isr_rf _) ?_
        refine z_aload_n (pc := 73) dX5_pairPlayers_73 rfl (by first | rfl | exact z_isr_rf _) ?_
        refine pfX5_198 (pc := 74) rfl dX5_pairPlayers_74 (by first | rfl | exact z_isr_rf _) (hC.k5 ha) (Nat.le_of_ble_eq_true rfl) ?_
        refine z_genC (hC.pO1 ha (some b)) (fun w2 hC2 hf2 => ?_)
        refine z_aload_n (pc := 77) dX5_pairPlayers_77 rfl (by first | rfl | exact z_isr_rf _) ?_
        refine z_aload_n (pc := 78) dX5_pairPlayers_78 rfl (by first | rfl | exact z_isr_rf _) ?_
        refine pfX5_198 (pc := 79) rfl dX5_pairPlayers_79 (by first | rfl | exact z_isr_rf _) (hC2.k5 hb) (Nat.le_of_ble_eq_true rfl) ?_
        refine z_genC (hC2.pO1 hb (some a)) (fun w3 hC3 hf3 => ?_)
        refine z_iinc1 (pc := 82) dX5_pairPlayers_82 ?_
        refine z_goto (pc := 85) (tgt := 39) dX5_pairPlayers_85 (by decide) ?_
        rw [nI_1]
        exact ih (i + 1) (by omega) (by omega) _ w3 _ _ _ hC3 (hf.tr (hf2.tr hf3)) hO
theorem iX5_pair1 {QX} {w0 : z_W} {O : z_TO} (h8 : N 6 0 ≤ 8) : ∀ m i : Nat, 8 - i = m → i ≤ 8 → ∀ (w : z_W) (x4 : Option Value), z_C G F A I N (z_oc O i) B w → z_fr F w0 w → z_E G zX5_pairPlayers 2 (z_mq G (fun v w' => v = none ∧ z_fr F w0 w' ∧ z_C G F A I N (z_pr I N 4 (z_oc O 8)) B w') QX) 10 [some (.ref (A 0 0 0)), some (.ref (A 1 0 0)), some (.int (nI 8)), some (.int (nI i)), x4] [] w 0 0 := by
  intro m
  induction m with
  | zero =>
    intro i hm hi w x4 hC hf
    have : i = 8 := by omega
    subst this
    refine z_iload_n (pc := 10) dX5_pairPlayers_10 rfl ?_
    refine z_iload_n (pc := 11) dX5_pairPlayers_11 rfl ?_
    refine z_icmp_ge (pc := 12) (tgt := 37) dX5_pairPlayers_12 (by decide) (fun _ => ?_) (fun hn => absurd (nI_le (Nat.le_refl _) (by omega)) hn)
    refine z_iconst_0 (pc := 37) dX5_pairPlayers_37 ?_
    refine z_istore1 (pc := 38) dX5_pairPlayers_38 ?_
    exact iX5_pair2 h8 4 0 rfl (by omega) _ w _ _ _ hC hf rfl
  | succ m ih =>
    intro i hm hi w x4 hC hf
    have hin : i < 8 := by omega
    have hi3 : i < 2 ^ 31 := by omega
    refine z_iload_n (pc := 10) dX5_pairPlayers_10 rfl ?_
    refine z_iload_n (pc := 11) dX5_pairPlayers_11 rfl ?_
    refine z_icmp_ge (pc := 12) (tgt := 37) dX5_pairPlayers_12 (by decide) (fun hn => absurd hn (nI_ge hin (by omega))) (fun _ => ?_)
    refine z_aload_n (pc := 15) dX5_pairPlayers_15 rfl (by first | rfl | exact z_isr_rf _) ?_
    refine z_iload_n (pc := 16) dX5_pairPlayers_16 rfl ?_
    refine z_aaldP (pc := 17) dX5_pairPlayers_17 (hC.k1) (vp_in_nI hin (by omega)) ?_
    rw [nI_clamp hi3]
    by_cases hp : i < N 6 0
    · rw [if_pos hp]
      refine z_astore4 (pc := 18) dX5_pairPlayers_18 (by first | rfl | exact z_isr_rf _) ?_
      refine z_aload (pc := 20) dX5_pairPlayers_20 rfl (by first | rfl | exact z_isr_rf _) ?_
      refine z_ifnull (pc := 22) (tgt := 31) dX5_pairPlayers_22 (by decide) (by first | rfl | exact z_isr_rf _) (fun hn => by cases hn) (fun _ _ => ?_)
      refine z_aload (pc := 25) dX5_pairPlayers_25 rfl (by first | rfl | exact z_isr_rf _) ?_
      refine z_null (pc := 27) dX5_pairPlayers_27 ?_
      refine pfX5_198 (pc := 28) rfl dX5_pairPlayers_28 (by first | rfl | exact z_isr_rf _) (hC.k5 hp) (Nat.le_of_ble_eq_true rfl) ?_
      refine z_genC (hC.pO1 hp none) (fun w2 hC2 hf2 => ?_)
      refine z_iinc3 (pc := 31) dX5_pairPlayers_31 ?_
      refine z_goto (pc := 34) (tgt := 10) dX5_pairPlayers_34 (by decide) ?_
      rw [nI_1]
      exact ih (i + 1) (by omega) (by omega) w2 _ (by rw [z_oc_s]; exact hC2) (hf.tr hf2)
    · rw [if_neg hp]
      refine z_astore4 (pc := 18) dX5_pairPlayers_18 (by first | rfl | exact z_isr_rf _) ?_
      refine z_aload (pc := 20) dX5_pairPlayers_20 rfl (by first | rfl | exact z_isr_rf _) ?_
      refine z_ifnull (pc := 22) (tgt := 31) dX5_pairPlayers_22 (by decide) (by first | rfl | exact z_isr_rf _) (fun _ => ?_) (fun _ hn => by cases hn)
      refine z_iinc3 (pc := 31) dX5_pairPlayers_31 ?_
      refine z_goto (pc := 34) (tgt := 10) dX5_pairPlayers_34 (by decide) ?_
      rw [nI_1]
      refine ih (i + 1) (by omega) (by omega) w _ ?_ hf
      rw [z_oc_s]
      refine z_tw.re hC (fun _ _ _ h => h) (fun k a b hl => ?_)
      unfold z_ct
      split <;> first
        | rfl
        | (have hne : a ≠ i := by have := hl.1; omega
           rw [z_sO_i _ _ _ hne])
theorem mX5_pairPlayers (hC : z_C G F A I N O B w) (h8 : N 6 0 ≤ 8) : z_M G zX5_pairPlayers 2 [.ref (A 0 0 0)] w 0 0 (z_st G F A I N (z_pr I N 4 (z_oc O 8)) B w none) z_nx := by
  refine z_M.of (by decide +kernel) rfl (by intro v hv; simp only [List.mem_cons, List.not_mem_nil, or_false] at hv; rcases hv with rfl <;> first | rfl | exact z_isr_cat (z_isr_rf _)) (Nat.le_of_ble_eq_true rfl) ?_
  show z_E _ zX5_pairPlayers _ _ 0 [some (.ref (A 0 0 0)), none, none, none, none] [] _ _ _
  refine z_aload_n (pc := 0) dX5_pairPlayers_0 rfl (by first | rfl | exact z_isr_rf _) ?_
  refine gfX5_11 (pc := 1) rfl dX5_pairPlayers_1 (hC.k0) rfl ?_
  refine z_astore1 (pc := 4) dX5_pairPlayers_4 (by first | rfl | exact z_isr_rf _) ?_
  refine z_aload_n (pc := 5) dX5_pairPlayers_5 rfl (by first | rfl | exact z_isr_rf _) ?_
  refine z_alen (pc := 6) dX5_pairPlayers_6 (hC.k1) rfl rfl ?_
  refine z_istore2 (pc := 7) dX5_pairPlayers_7 ?_
  refine z_iconst_0 (pc := 8) dX5_pairPlayers_8 ?_
  refine z_istore3 (pc := 9) dX5_pairPlayers_9 ?_
  refine z_genW _ (fun w' => z_E G zX5_pairPlayers 2 _ 10 _ _ w' 0 0) ?_ (fun w' h => h)
  show z_E G zX5_pairPlayers 2 (z_mq G (fun v w' => v = none ∧ z_C G F A I N (z_pr I N 4 (z_oc O 8)) B w' ∧ z_fr F w w') z_nx) 10 _ _ w 0 0
  have := iX5_pair1 (QX := z_nx) (w0 := w) (O := O) (B := B) (G := G) (F := F) (A := A) (I := I) h8 8 0 rfl (by omega) w none (by rw [z_oc_0]; exact hC) z_fr.rf
  have e : (fun (v : Option Value) (w' : z_W) => v = none ∧ z_fr F w w' ∧ z_C G F A I N (z_pr I N 4 (z_oc O 8)) B w') = (fun v w' => v = none ∧ z_C G F A I N (z_pr I N 4 (z_oc O 8)) B w' ∧ z_fr F w w') := by
    funext v w'
    exact propext ⟨fun h => ⟨h.1, h.2.2, h.2.1⟩, fun h => ⟨h.1, h.2.2, h.2.1⟩⟩
  rw [e] at this
  exact this
end PRS

