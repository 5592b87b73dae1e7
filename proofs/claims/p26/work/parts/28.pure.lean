/-! pure rows that whole and p26 share: tables told as functions, truths as ints -/
abbrev z_TM : Type := Nat → Nat → Int32
def z_sM (M : z_TM) (f j : Nat) (v : Int32) : z_TM := fun f' => if f' = f then upd (M f) j v else M f'
theorem z_sM_s (M : z_TM) (f j : Nat) (v : Int32) : z_sM M f j v f = upd (M f) j v := if_pos rfl
theorem z_sM_f (M : z_TM) {f f' : Nat} (j : Nat) (v : Int32) (h : f' ≠ f) : z_sM M f j v f' = M f' := if_neg h
theorem z_upd_s (f : Nat → Int32) (j : Nat) (v : Int32) : upd f j v j = v := by unfold upd; exact if_pos rfl
theorem z_upd_n (f : Nat → Int32) {i j : Nat} (v : Int32) (h : i ≠ j) : upd f j v i = f i := by unfold upd; exact if_neg h
noncomputable def z_b (P : Prop) : Int32 := @ite _ P (Classical.propDecidable P) 1 0
theorem z_b_t {P : Prop} (h : P) : z_b P = 1 := by unfold z_b; exact if_pos h
theorem z_b_f {P : Prop} (h : ¬ P) : z_b P = 0 := by unfold z_b; exact if_neg h
theorem z_b_01 (P : Prop) : z_b P = 0 ∨ z_b P = 1 := by
  by_cases h : P
  · exact Or.inr (z_b_t h)
  · exact Or.inl (z_b_f h)
theorem z_b_0 {P : Prop} (h : z_b P = 0) : ¬ P := fun q => by rw [z_b_t q] at h; exact absurd h (by decide)
theorem z_b_1 {P : Prop} (h : ¬ z_b P = 0) : P := by
  by_cases q : P
  · exact q
  · exact absurd (z_b_f q) h
theorem z_b_c {P Q : Prop} (h : P ↔ Q) : z_b P = z_b Q := by
  by_cases q : P
  · rw [z_b_t q, z_b_t (h.1 q)]
  · rw [z_b_f q, z_b_f (fun z => q (h.2 z))]
theorem z_rg_iff {x : Int32} {n : Nat} (hn : n < 2 ^ 31) : (0 ≤ x ∧ x ≤ nI n - 1) ↔ z_rg x n := by
  constructor
  · rintro ⟨h1, h2⟩
    have h1' := Int32.le_iff_toInt_le.1 h1
    have h2' := Int32.le_iff_toInt_le.1 h2
    have e0 : (0 : Int32).toInt = 0 := rfl
    by_cases hz : n = 0
    · subst hz
      have e1 : (nI 0 - 1 : Int32).toInt = -1 := by decide
      omega
    · obtain ⟨k, rfl⟩ : ∃ k, n = k + 1 := ⟨n - 1, by omega⟩
      have e : nI (k + 1) - 1 = nI k := by rw [← nI_1, Int32.add_sub_cancel]
      rw [e, nI_toInt (by omega)] at h2'
      exact z_rg_in' hn (Int32.not_lt.mpr h1) (Int32.lt_iff_toInt_lt.2 (by rw [nI_toInt hn]; omega))
  · rintro ⟨j, hj, rfl⟩
    refine ⟨Int32.not_lt.mp (nI_pos (by omega)), ?_⟩
    obtain ⟨k, rfl⟩ : ∃ k, n = k + 1 := ⟨n - 1, by omega⟩
    have e : nI (k + 1) - 1 = nI k := by rw [← nI_1, Int32.add_sub_cancel]
    rw [e]
    exact (nI_leI (by omega) (by omega)).2 (by omega)
def z_sh (n : Nat) : Nat := (4 ^ n - 4) / 3
theorem z_sh_s : ∀ n, n < 7 → 1 ≤ n → z_sh n + 4 ^ n ≤ 5460 := by decide +kernel
theorem z_sh_n : ∀ n, n < 6 → 1 ≤ n → z_sh (n + 1) = z_sh n + 4 ^ n := by decide +kernel
noncomputable def z_if {α : Type} (P : Prop) (a b : α) : α := @ite _ P (Classical.propDecidable P) a b
theorem z_if_t {α : Type} {P : Prop} {a b : α} (h : P) : z_if P a b = a := by unfold z_if; exact if_pos h
theorem z_if_f {α : Type} {P : Prop} {a b : α} (h : ¬ P) : z_if P a b = b := by unfold z_if; exact if_neg h
theorem z_nm (a b : Nat) : nI a * nI b = nI (a * b) := (Int32.ofNat_mul a b).symm
theorem z_ln_no {x y : Int32} (h : z_ln x y) : (1 ≤ y ∧ y ≤ 6) ∧ ¬ x < 0 ∧ x < (1 : Int32) <<< ((2 * y) &&& 31) := by
  obtain ⟨l, n, h1, h2, h3, rfl, rfl⟩ := h
  have hp := z_p4 n (by omega)
  refine ⟨⟨(nI_leI (a := 1) (by decide) (by omega)).2 h1, (nI_leI (b := 6) (by omega) (by decide)).2 h2⟩, nI_pos (by omega), ?_⟩
  rw [z_shl n (by omega)]
  exact (nI_ltI (by omega) hp).2 h3
theorem z_ln_ye {y : Int32} (h : 1 ≤ y ∧ y ≤ 6) : ∃ n : Nat, 1 ≤ n ∧ n ≤ 6 ∧ y = nI n := by
  obtain ⟨j, hj, rfl⟩ := nI_of2 (M := 6) (n := 6) (by decide) (fun q => Int32.not_lt.mpr h.1 (Int32.lt_trans q (by decide))) h.2
  exact ⟨j, (nI_leI (a := 1) (by decide) (by omega)).1 h.1, hj, rfl⟩
theorem z_px_c {f g : Nat → Nat} : ∀ n, (∀ i, i < n → f i = g i) → z_px f n = z_px g n
  | 0, _ => rfl
  | n + 1, h => by
    unfold z_px
    rw [z_px_c n (fun i hi => h i (by omega)), h n (by omega)]
theorem z_nan : ∀ c, c < 60 → ∀ s, s < 121 → vf_n32 (FP.fdiv (FP.i2f (nI s)) (FP.i2f (nI (c + 1)))) := by unfold vf_n32; decide +kernel


