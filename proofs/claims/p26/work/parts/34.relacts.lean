/-! the relation is kept: enter, begin, move, solve, a puzzle made -/
def z_mr (M : z_TM) (p : Nat) : Nat → z_TM
  | 0 => M
  | k + 1 => z_sM (z_mr M p k) 3 (5 * p + k) 1000
theorem z_mr_f {M : z_TM} {p f : Nat} (h : f ≠ 3) : ∀ k, z_mr M p k f = M f
  | 0 => rfl
  | k + 1 => by rw [z_mr, z_sM_f _ _ _ h, z_mr_f h k]
theorem z_mr_3 {M : z_TM} {p : Nat} (j : Nat) : ∀ k, z_mr M p k 3 j = if 5 * p ≤ j ∧ j < 5 * p + k then 1000 else M 3 j
  | 0 => by rw [z_mr, if_neg (by omega)]
  | k + 1 => by
    rw [z_mr, z_sM_s]
    by_cases q : j = 5 * p + k
    · rw [q, z_upd_s, if_pos (by omega)]
    · rw [z_upd_n _ _ q, z_mr_3 j k]
      by_cases h : 5 * p ≤ j ∧ j < 5 * p + k
      · rw [if_pos h, if_pos (by omega)]
      · rw [if_neg h, if_neg (by omega)]
theorem z_IP_f (I : z_TI) (p : Nat) {f : Nat} (h : 5 < f) : z_IP I p f = I f := by
  unfold z_IP
  rw [z_sF_f _ _ _ (by omega), z_sF_f _ _ _ (by omega), z_sF_f _ _ _ (by omega), z_sF_f _ _ _ (by omega), z_sF_f _ _ _ (by omega), z_sF_f _ _ _ (by omega)]
section RA
variable {I : z_TI} {N : z_TN} {O : z_TO} {B : z_TB} {M : z_TM}
theorem z_Z.c {I I' : z_TI} {B : z_TB} (h : z_Z I B) (hI : ∀ f, 10 < f → f < 14 → I' f = I f) : z_Z I' B := by
  unfold z_Z
  rw [hI 11 (by decide) (by decide), hI 12 (by decide) (by decide), hI 13 (by decide) (by decide)]
  exact h
theorem z_S.enter (hS : z_S N O B) (h8 : N 0 0 < 8) : z_S (z_NP N) (z_sO O 1 (N 0 0) none) B := by
  obtain ⟨h1, h2, h3, h4, h5, h6, h7, h8', h9, h10, h11, h12⟩ := hS
  have e0 : z_NP N 0 0 = N 0 0 + 1 := by simp [z_NP, z_sN]
  have e6 : z_NP N 6 0 = N 0 0 + 1 := by simp [z_NP, z_sN]
  have eo : ∀ f, f ≠ 0 → f ≠ 6 → z_NP N f = N f := fun f a b => by
    unfold z_NP; rw [z_sN_f _ _ _ a, z_sN_f _ _ _ b]
  refine ⟨by rw [e0, e6], by rw [eo 7 (by decide) (by decide), eo 1 (by decide) (by decide)]; exact h2, by rw [eo 8 (by decide) (by decide), eo 2 (by decide) (by decide)]; exact h3, by rw [e0]; omega, by rw [eo 1 (by decide) (by decide)]; exact h5, by rw [eo 2 (by decide) (by decide)]; exact h6, fun g hg => ?_, fun g hg => ?_, fun p q hp hq => ?_, h10, h11, h12⟩
  · rw [eo 1 (by decide) (by decide)] at hg
    rw [eo 3 (by decide) (by decide), eo 4 (by decide) (by decide), eo 5 (by decide) (by decide), e0]
    have := h7 g hg
    omega
  · rw [z_sO_f _ _ _ (by decide)] at hg
    rw [eo 1 (by decide) (by decide)]
    exact h8' g hg
  · rw [e0] at hp ⊢
    by_cases q1 : p = N 0 0
    · rw [q1, z_sO_s] at hq; cases hq
    · rw [z_sO_i _ _ _ q1] at hq
      have := h9 p q (by omega) hq
      omega
theorem z_ed_c {N N' : z_TN} {O O' : z_TO} (h1 : N' 1 = N 1) (hO : O' 0 0 = O 0 0) : z_ed N' O' = z_ed N O := by
  unfold z_ed
  rw [h1, hO]
theorem z_ed_le {N : z_TN} {O : z_TO} : z_ed N O ≤ N 1 0 := by
  unfold z_ed
  cases O 0 0 with
  | none => exact Nat.le_refl _
  | some g => exact Nat.sub_le _ _
theorem z_J.enter (h : z_J I N O B M) (h8 : N 0 0 < 8) : z_J (z_IP I (N 0 0)) (z_NP N) (z_sO O 1 (N 0 0) none) B (z_sM (z_mr (z_sM M 21 0 0) (N 0 0) 5) 0 0 (nI (N 0 0 + 1))) := by
  obtain ⟨hS, hZ, hP, hG, hZZ, hL, hB, hM⟩ := h
  have e0 : z_NP N 0 0 = N 0 0 + 1 := by simp [z_NP, z_sN]
  have eo : ∀ f, f ≠ 0 → f ≠ 6 → z_NP N f = N f := fun f a b => by
    unfold z_NP; rw [z_sN_f _ _ _ a, z_sN_f _ _ _ b]
  have eO : z_sO O 1 (N 0 0) none 0 0 = O 0 0 := by rw [z_sO_f _ _ _ (by decide)]
  have eM : ∀ f, f ≠ 0 → f ≠ 3 → f ≠ 21 → z_sM (z_mr (z_sM M 21 0 0) (N 0 0) 5) 0 0 (nI (N 0 0 + 1)) f = M f := fun f a b c => by
    rw [z_sM_f _ _ _ a, z_mr_f b, z_sM_f _ _ _ c]
  refine ⟨hS.enter h8, hZ.c (fun f a b => z_IP_f I _ (by omega)), ?_, hG.c (fun f a b => z_IP_f I _ (by omega)) (eo 1 (by decide) (by decide)) (eo 3 (by decide) (by decide)) (eo 4 (by decide) (by decide)) (eo 5 (by decide) (by decide)) eO (fun f a b => eM f (by omega) (by omega) (by omega)), hZZ.c (z_IP_f I _ (by decide)) (z_IP_f I _ (by decide)) (eo 2 (by decide) (by decide)) (fun f a b => eM f (by omega) (by omega) (by omega)), hL.c (fun f a b => z_IP_f I _ (by omega)) (Nat.le_of_eq (z_ed_c (eo 1 (by decide) (by decide)) eO).symm) (fun f a b => eM f (by omega) (by omega) (by omega)), hB.c (fun f a b => z_IP_f I _ (by omega)), ?_⟩
  · refine ⟨by rw [z_sM_s, z_upd_s, e0], fun p hp => ?_, fun p hp => ?_⟩
    · rw [e0] at hp
      rw [eM 1 (by decide) (by decide) (by decide), eM 2 (by decide) (by decide) (by decide), eM 4 (by decide) (by decide) (by decide)]
      have e3 : ∀ j, z_sM (z_mr (z_sM M 21 0 0) (N 0 0) 5) 0 0 (nI (N 0 0 + 1)) 3 j = if 5 * N 0 0 ≤ j ∧ j < 5 * N 0 0 + 5 then 1000 else M 3 j := fun j => by
        rw [z_sM_f _ _ _ (by decide), z_mr_3, z_sM_f _ _ _ (by decide)]
      by_cases q : p = N 0 0
      · subst q
        have h3 := hP.2.2 (N 0 0) (Nat.le_refl _)
        refine ⟨?_, ?_, fun t ht => ⟨?_, ?_⟩, fun z hz => ?_⟩
        · rw [h3.1]; simp [z_IP, z_sF]
        · rw [h3.2.1]; simp [z_IP, z_sF]
        · rw [e3, if_pos (by omega)]; simp [z_IP, z_sF, z_r0, ht]
        · refine ⟨1000, by decide, ?_⟩
          simp [z_IP, z_sF, z_r0, ht]; rfl
        · rw [h3.2.2 z hz]; simp [z_IP, z_sF]
      · have h3 := hP.2.1 p (by omega)
        rw [z_IP_i q, z_IP_i q, z_IP_i q, z_IP_i q, z_IP_i q]
        refine ⟨h3.1, h3.2.1, fun t ht => ⟨?_, (h3.2.2.1 t ht).2⟩, h3.2.2.2⟩
        rw [e3, if_neg (by omega)]
        exact (h3.2.2.1 t ht).1
    · rw [e0] at hp
      rw [eM 1 (by decide) (by decide) (by decide), eM 2 (by decide) (by decide) (by decide), eM 4 (by decide) (by decide) (by decide)]
      exact hP.2.2 p (by omega)
  · intro p q hp
    rw [e0] at hp
    rw [z_ed_c (eo 1 (by decide) (by decide)) eO, eo 3 (by decide) (by decide), eo 4 (by decide) (by decide)]
    by_cases e : p = N 0 0
    · subst e
      constructor
      · rintro - ⟨g, hg, h⟩
        have := hS.2.2.2.2.2.2.1 g (Nat.lt_of_lt_of_le hg z_ed_le)
        omega
      · intro _
        simp [z_IP, z_sF]
    · rw [z_IP_i e]
      exact hM p q (by omega)
end RA

