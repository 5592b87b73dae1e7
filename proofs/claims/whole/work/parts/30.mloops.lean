/-! the reference's loops that only ask -/
def z_sh (n : Nat) : Nat := (4 ^ n - 4) / 3
theorem z_sh_v : ∀ n, n < 7 → 1 ≤ n → (((1 : Int32) <<< ((2 * nI n) &&& 31)) - 4) / 3 = nI (z_sh n) := by decide +kernel
theorem z_sh_s : ∀ n, n < 7 → 1 ≤ n → z_sh n + 4 ^ n ≤ 5460 := by decide +kernel
theorem z_sh_n : ∀ n, n < 6 → 1 ≤ n → z_sh (n + 1) = z_sh n + 4 ^ n := by decide +kernel
theorem z_mk1 : ∀ n, n < 7 → (((1 : Int32) <<< ((2 * nI n) &&& 31)) - 1).toBitVec.toNat = 2 ^ (2 * n) - 1 := by decide +kernel
theorem z_and {l k : Nat} (hl : l < 2 ^ 31) (hk : k < 7) : nI l &&& (((1 : Int32) <<< ((2 * nI k) &&& 31)) - 1) = nI (l % 4 ^ k) := by
  rw [pk_andN (by omega) (2 * k) (z_mk1 k hk), Nat.pow_mul]
section ML
variable {G : z_G} {F : Nat → Prop} {A : z_TA} {M : z_TM} {w : z_W}
theorem mX6_shorter {n : Nat} (hn : n < 7) (h1 : 1 ≤ n) : z_M G zX6_shorter 0 [.int (nI n)] w 0 0 (z_rp (.int (nI (z_sh n))) w) z_nx := by
  refine z_M.of (by decide +kernel) rfl (by intro v hv; simp only [List.mem_cons, List.not_mem_nil, or_false] at hv; rcases hv with rfl <;> first | rfl | exact z_isr_cat (z_isr_rf _)) (Nat.le_of_ble_eq_true rfl) ?_
  show z_E _ zX6_shorter _ _ 0 [some (.int (nI n))] [] _ _ _
  refine z_iconst_1 (pc := 0) dX6_shorter_0 ?_
  refine z_iconst_2 (pc := 1) dX6_shorter_1 ?_
  refine z_iload_n (pc := 2) dX6_shorter_2 rfl ?_
  refine z_imul (pc := 3) dX6_shorter_3 ?_
  refine z_ishl (pc := 4) dX6_shorter_4 ?_
  refine z_iconst_4 (pc := 5) dX6_shorter_5 ?_
  refine z_isub (pc := 6) dX6_shorter_6 ?_
  refine z_iconst_3 (pc := 7) dX6_shorter_7 ?_
  refine z_idiv (pc := 8) dX6_shorter_8 (by decide) ?_
  rw [z_sh_v n hn h1]
  refine z_iret (pc := 9) dX6_shorter_9 rfl (⟨rfl, rfl⟩)
theorem iX6_hasPuzzle {QX} (hM : z_Mo G F A M w) {nz : Nat} (h13 : M 13 0 = nI nz) (h40 : nz ≤ 40) (x : Int32) : ∀ m i : Nat, nz - i = m → i ≤ nz → z_E G zX6_hasPuzzle 1 (z_mq G (z_rp (.int (z_b (∃ z, z < nz ∧ M 14 z = x))) w) QX) 4 [some (.ref (A 22 0 0)), some (.int x), some (.int (z_b (∃ z, z < i ∧ M 14 z = x))), some (.int (nI i))] [] w 0 0 := by
  intro m
  induction m with
  | zero =>
    intro i hm hi
    have : i = nz := by omega
    subst this
    refine z_iload_n (pc := 4) dX6_hasPuzzle_4 rfl ?_
    refine z_aload_n (pc := 5) dX6_hasPuzzle_5 rfl (by first | rfl | exact z_isr_rf _) ?_
    refine gfX6_70 (pc := 6) rfl dX6_hasPuzzle_6 (hM.k22) rfl ?_
    refine z_icmp_ge (pc := 9) (tgt := 38) dX6_hasPuzzle_9 (by decide) (fun _ => ?_) (fun hn => absurd ((by rw [h13]; exact nI_le (Nat.le_refl _) (by omega))) hn)
    refine z_iload_n (pc := 38) dX6_hasPuzzle_38 rfl ?_
    refine z_zret (pc := 39) dX6_hasPuzzle_39 rfl (z_b_01 _ ) ( ⟨rfl, rfl⟩)
  | succ m ih =>
    intro i hm hi
    have hin : i < nz := by omega
    have hi3 : i < 2 ^ 31 := by omega
    have ih := ih (i + 1) (by omega) (by omega)
    refine z_iload_n (pc := 4) dX6_hasPuzzle_4 rfl ?_
    refine z_aload_n (pc := 5) dX6_hasPuzzle_5 rfl (by first | rfl | exact z_isr_rf _) ?_
    refine gfX6_70 (pc := 6) rfl dX6_hasPuzzle_6 (hM.k22) rfl ?_
    refine z_icmp_ge (pc := 9) (tgt := 38) dX6_hasPuzzle_9 (by decide) (fun hn => absurd hn ((by rw [h13]; exact nI_ge hin (by omega)))) (fun _ => ?_)
    refine z_iload_n (pc := 12) dX6_hasPuzzle_12 rfl ?_
    have tt : (∃ z, z < i + 1 ∧ M 14 z = x) → z_E G zX6_hasPuzzle 1 (z_mq G (z_rp (.int (z_b (∃ z, z < nz ∧ M 14 z = x))) w) QX) 26 [some (.ref (A 22 0 0)), some (.int x), some (.int (z_b (∃ z, z < i ∧ M 14 z = x))), some (.int (nI i))] [] w 0 0 := by
      intro h
      rw [z_b_t h] at ih
      refine z_iconst_1 (pc := 26) dX6_hasPuzzle_26 ?_
      refine z_goto (pc := 27) (tgt := 31) dX6_hasPuzzle_27 (by decide) ?_
      refine z_istore2 (pc := 31) dX6_hasPuzzle_31 ?_
      refine z_iinc3 (pc := 32) dX6_hasPuzzle_32 ?_
      refine z_goto (pc := 35) (tgt := 4) dX6_hasPuzzle_35 (by decide) ?_
      rw [nI_1]
      exact ih
    refine z_if_ne (pc := 13) (tgt := 26) dX6_hasPuzzle_13 (by decide) (fun hc => ?_) (fun hc => ?_)
    · obtain ⟨z, hz, h⟩ := z_b_1 hc
      exact tt ⟨z, by omega, h⟩
    · have hno := z_b_0 hc
      refine z_aload_n (pc := 16) dX6_hasPuzzle_16 rfl (by first | rfl | exact z_isr_rf _) ?_
      refine gfX6_38 (pc := 17) rfl dX6_hasPuzzle_17 (hM.k22) rfl ?_
      refine z_iload_n (pc := 20) dX6_hasPuzzle_20 rfl ?_
      refine z_iald (pc := 21) dX6_hasPuzzle_21 (hM.k14) (vp_in_nI (by omega) (by omega)) ?_
      refine z_iload_n (pc := 22) dX6_hasPuzzle_22 rfl ?_
      rw [nI_clamp hi3]
      refine z_icmp_ne (pc := 23) (tgt := 30) dX6_hasPuzzle_23 (by decide) (fun hd => ?_) (fun hd => ?_)
      · have h : ¬ ∃ z, z < i + 1 ∧ M 14 z = x := by
          rintro ⟨z, hz, h⟩
          by_cases q : z = i
          · exact hd (q ▸ h)
          · exact hno ⟨z, by omega, h⟩
        rw [z_b_f h] at ih
        refine z_iconst_0 (pc := 30) dX6_hasPuzzle_30 ?_
        refine z_istore2 (pc := 31) dX6_hasPuzzle_31 ?_
        refine z_iinc3 (pc := 32) dX6_hasPuzzle_32 ?_
        refine z_goto (pc := 35) (tgt := 4) dX6_hasPuzzle_35 (by decide) ?_
        rw [nI_1]
        exact ih
      · exact tt ⟨i, by omega, hd⟩
theorem mX6_hasPuzzle (hM : z_Mo G F A M w) {nz : Nat} (h13 : M 13 0 = nI nz) (h40 : nz ≤ 40) (x : Int32) : z_M G zX6_hasPuzzle 1 [.ref (A 22 0 0), .int x] w 0 0 (z_rp (.int (z_b (∃ z, z < nz ∧ M 14 z = x))) w) z_nx := by
  have := iX6_hasPuzzle (QX := z_nx) hM h13 h40 x nz 0 rfl (Nat.zero_le _)
  rw [z_b_f (P := ∃ z, z < 0 ∧ M 14 z = x) (fun ⟨z, hz, _⟩ => absurd hz (Nat.not_lt_zero _))] at this
  refine z_M.of (by decide +kernel) rfl (by intro v hv; simp only [List.mem_cons, List.not_mem_nil, or_false] at hv; rcases hv with rfl | rfl <;> first | rfl | exact z_isr_cat (z_isr_rf _)) (Nat.le_of_ble_eq_true rfl) ?_
  show z_E _ zX6_hasPuzzle _ _ 0 [some (.ref (A 22 0 0)), some (.int x), none, none] [] _ _ _
  refine z_iconst_0 (pc := 0) dX6_hasPuzzle_0 ?_
  refine z_istore2 (pc := 1) dX6_hasPuzzle_1 ?_
  refine z_iconst_0 (pc := 2) dX6_hasPuzzle_2 ?_
  refine z_istore3 (pc := 3) dX6_hasPuzzle_3 ?_
  exact this
/-- whether a line or one of its beginnings is dropped -/
def z_gn (M : z_TM) (l n : Nat) : Prop := ∃ k, 1 ≤ k ∧ k ≤ n ∧ M 18 (z_sh k + l % 4 ^ k) ≠ 0
theorem z_gn_s {M : z_TM} {l n : Nat} : z_gn M l (n + 1) ↔ z_gn M l n ∨ M 18 (z_sh (n + 1) + l % 4 ^ (n + 1)) ≠ 0 := by
  constructor
  · rintro ⟨k, h1, h2, h3⟩
    by_cases q : k = n + 1
    · exact Or.inr (q ▸ h3)
    · exact Or.inl ⟨k, h1, by omega, h3⟩
  · rintro (⟨k, h1, h2, h3⟩ | h)
    · exact ⟨k, h1, by omega, h3⟩
    · exact ⟨n + 1, by omega, by omega, h⟩
theorem iX6_isGone {QX} (hM : z_Mo G F A M w) {l n : Nat} (hl : l < 2 ^ 31) (h6 : n ≤ 6) : ∀ m i : Nat, n - i = m → i ≤ n → z_E G zX6_isGone 1 (z_mq G (z_rp (.int (z_b (z_gn M l n))) w) QX) 5 [some (.ref (A 22 0 0)), some (.int (nI l)), some (.int (nI n)), some (.int (z_b (z_gn M l i))), some (.int (nI (i + 1)))] [] w 0 0 := by
  intro m
  induction m with
  | zero =>
    intro i hm hi
    have : i = n := by omega
    subst this
    refine z_iload (pc := 5) dX6_isGone_5 rfl ?_
    refine z_iload_n (pc := 7) dX6_isGone_7 rfl ?_
    refine z_icmp_gt (pc := 8) (tgt := 51) dX6_isGone_8 (by decide) (fun _ => ?_) (fun hn => absurd ((nI_ltI (by omega) (by omega)).2 (by omega)) hn)
    refine z_iload_n (pc := 51) dX6_isGone_51 rfl ?_
    refine z_zret (pc := 52) dX6_isGone_52 rfl (z_b_01 _ ) ( ⟨rfl, rfl⟩)
  | succ m ih =>
    intro i hm hi
    have ih := ih (i + 1) (by omega) (by omega)
    refine z_iload (pc := 5) dX6_isGone_5 rfl ?_
    refine z_iload_n (pc := 7) dX6_isGone_7 rfl ?_
    refine z_icmp_gt (pc := 8) (tgt := 51) dX6_isGone_8 (by decide) (fun hn => absurd hn (fun z => absurd ((nI_ltI (by omega) (by omega)).1 z) (by omega))) (fun _ => ?_)
    refine z_iload_n (pc := 11) dX6_isGone_11 rfl ?_
    have tt : z_gn M l (i + 1) → z_E G zX6_isGone 1 (z_mq G (z_rp (.int (z_b (z_gn M l n))) w) QX) 39 [some (.ref (A 22 0 0)), some (.int (nI l)), some (.int (nI n)), some (.int (z_b (z_gn M l i))), some (.int (nI (i + 1)))] [] w 0 0 := by
      intro h
      rw [z_b_t h] at ih
      refine z_iconst_1 (pc := 39) dX6_isGone_39 ?_
      refine z_goto (pc := 40) (tgt := 44) dX6_isGone_40 (by decide) ?_
      refine z_istore3 (pc := 44) dX6_isGone_44 ?_
      refine z_iinc4 (pc := 45) dX6_isGone_45 ?_
      refine z_goto (pc := 48) (tgt := 5) dX6_isGone_48 (by decide) ?_
      rw [nI_1]
      exact ih
    refine z_if_ne (pc := 12) (tgt := 39) dX6_isGone_12 (by decide) (fun hc => ?_) (fun hc => ?_)
    · exact tt (z_gn_s.2 (Or.inl (z_b_1 hc)))
    · have hno := z_b_0 hc
      refine z_aload_n (pc := 15) dX6_isGone_15 rfl (by first | rfl | exact z_isr_rf _) ?_
      refine gfX6_50 (pc := 16) rfl dX6_isGone_16 (hM.k22) rfl ?_
      refine z_iload (pc := 19) dX6_isGone_19 rfl ?_
      refine z_callSp (pc := 21) (mX6_shorter (G := G) (n := i + 1) (by omega) (by omega)) dX6_isGone_21 cwX6_115 okX6_shorter rfl (by omega) rfl (Nat.le_of_ble_eq_true rfl) ?_
      have hp : l % 4 ^ (i + 1) < 4 ^ (i + 1) := Nat.mod_lt _ (Nat.pow_pos (by omega))
      have hs := z_sh_s (i + 1) (by omega) (by omega)
      refine z_iload_n (pc := 24) dX6_isGone_24 rfl ?_
      refine z_iconst_1 (pc := 25) dX6_isGone_25 ?_
      refine z_iconst_2 (pc := 26) dX6_isGone_26 ?_
      refine z_iload (pc := 27) dX6_isGone_27 rfl ?_
      refine z_imul (pc := 29) dX6_isGone_29 ?_
      refine z_ishl (pc := 30) dX6_isGone_30 ?_
      refine z_iconst_1 (pc := 31) dX6_isGone_31 ?_
      refine z_isub (pc := 32) dX6_isGone_32 ?_
      refine z_iand (pc := 33) dX6_isGone_33 ?_
      rw [z_and hl (by omega)]
      refine z_iadd (pc := 34) dX6_isGone_34 ?_
      rw [nI_add]
      refine z_zald (pc := 35) dX6_isGone_35 (hM.k18) (vp_in_nI (by omega) (by omega)) ?_
      rw [nI_clamp (by omega)]
      refine z_if_eq (pc := 36) (tgt := 43) dX6_isGone_36 (by decide) (fun hd => ?_) (fun hd => ?_)
      · have h : ¬ z_gn M l (i + 1) := fun z => (z_gn_s.1 z).elim hno (fun z => z hd)
        rw [z_b_f h] at ih
        refine z_iconst_0 (pc := 43) dX6_isGone_43 ?_
        refine z_istore3 (pc := 44) dX6_isGone_44 ?_
        refine z_iinc4 (pc := 45) dX6_isGone_45 ?_
        refine z_goto (pc := 48) (tgt := 5) dX6_isGone_48 (by decide) ?_
        rw [nI_1]
        exact ih
      · exact tt (z_gn_s.2 (Or.inr hd))
theorem mX6_isGone (hM : z_Mo G F A M w) {l n : Nat} (hl : l < 2 ^ 31) (h6 : n ≤ 6) : z_M G zX6_isGone 1 [.ref (A 22 0 0), .int (nI l), .int (nI n)] w 0 0 (z_rp (.int (z_b (z_gn M l n))) w) z_nx := by
  have := iX6_isGone (QX := z_nx) hM hl h6 n 0 rfl (Nat.zero_le _)
  rw [z_b_f (P := z_gn M l 0) (fun ⟨k, h1, h2, _⟩ => by omega)] at this
  refine z_M.of (by decide +kernel) rfl (by intro v hv; simp only [List.mem_cons, List.not_mem_nil, or_false] at hv; rcases hv with rfl | rfl | rfl <;> first | rfl | exact z_isr_cat (z_isr_rf _)) (Nat.le_of_ble_eq_true rfl) ?_
  show z_E _ zX6_isGone _ _ 0 [some (.ref (A 22 0 0)), some (.int (nI l)), some (.int (nI n)), none, none] [] _ _ _
  refine z_iconst_0 (pc := 0) dX6_isGone_0 ?_
  refine z_istore3 (pc := 1) dX6_isGone_1 ?_
  refine z_iconst_1 (pc := 2) dX6_isGone_2 ?_
  refine z_istore4 (pc := 3) dX6_isGone_3 ?_
  exact this
end ML

