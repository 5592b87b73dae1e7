/-! a result in both books -/
theorem z_Jl.up {I : z_TI} {M : z_TM} {bd bd' : Nat → Nat} (h : z_Jl I M bd) {n l rr : Nat} (h1 : 1 ≤ n) (h6 : n ≤ 6) (hl : l < 4 ^ n) (hr : rr ≤ 2) (hb : ∀ k, bd k ≤ bd' k) (hbn : bd n + 1 ≤ bd' n) : z_Jl (z_sI (z_sI I 11 n l (I 11 n l + 1)) 12 n l (I 12 n l + nI rr)) (z_sM (z_sM M 16 (z_sh n + l) (I 11 n l + 1)) 17 (z_sh n + l) (I 12 n l + nI rr)) bd' := by
  intro n' l' h1' h6' hl'
  have h0 := h n' l' h1' h6' hl'
  have e13 : z_sI (z_sI I 11 n l (I 11 n l + 1)) 12 n l (I 12 n l + nI rr) 13 n' l' = I 13 n' l' := by
    rw [z_sI_f _ _ _ _ (by decide), z_sI_f _ _ _ _ (by decide)]
  have m18 : z_sM (z_sM M 16 (z_sh n + l) (I 11 n l + 1)) 17 (z_sh n + l) (I 12 n l + nI rr) 18 = M 18 := rfl
  have m17 : z_sM (z_sM M 16 (z_sh n + l) (I 11 n l + 1)) 17 (z_sh n + l) (I 12 n l + nI rr) 17 (z_sh n' + l') = upd (M 17) (z_sh n + l) (I 12 n l + nI rr) (z_sh n' + l') := rfl
  have m16 : z_sM (z_sM M 16 (z_sh n + l) (I 11 n l + 1)) 17 (z_sh n + l) (I 12 n l + nI rr) 16 (z_sh n' + l') = upd (M 16) (z_sh n + l) (I 11 n l + 1) (z_sh n' + l') := rfl
  rw [e13, m18, m17, m16]
  have hb2 := hb n'
  obtain ⟨a1, a2, a3, a4, c, s, a5, a6, a7, a8⟩ := h0
  by_cases q : n' = n ∧ l' = l
  · obtain ⟨rfl, rfl⟩ := q
    rw [z_upd_s, z_upd_s, z_sI_s, z_sI_f _ _ _ _ (by decide), z_sI_s]
    refine ⟨rfl, rfl, a3, a4, c + 1, s + rr, ?_, ?_, by omega, by omega⟩
    · rw [a5, nI_1]
    · rw [a6, nI_add]
  · have hne : ¬ z_sh n' + l' = z_sh n + l := fun z => q (z_sh_i h1' h6' hl' h1 h6 hl z)
    rw [z_upd_n _ _ hne, z_upd_n _ _ hne, z_sI_ne _ _ (fun z => q z.2), z_sI_ne _ _ (fun z => q z.2), z_sI_ne _ _ (fun z => q z.2), z_sI_ne _ _ (fun z => q z.2)]
    exact ⟨a1, a2, a3, a4, c, s, a5, a6, by omega, a8⟩
def z_ow (I : z_TI) (n l : Nat) : Int32 := if n % 2 = 1 then I 12 n l else 2 * I 11 n l - I 12 n l
theorem z_bd_ow {I : z_TI} {n l : Nat} : z_bd I n l ↔ 3 ≤ I 11 n l ∧ 3 * z_ow I n l < 2 * I 11 n l := by
  unfold z_bd bad z_ow
  by_cases h : n % 2 = 1
  · rw [if_pos h, if_pos h, if_neg (by decide)]
  · rw [if_neg h, if_neg h, if_pos rfl]

