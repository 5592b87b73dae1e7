/-! the relation is kept: begin, move, solve, a puzzle made -/
section RB
variable {I : z_TI} {N : z_TN} {O : z_TO} {B : z_TB} {M : z_TM}
theorem z_NB_o {N : z_TN} {p1 p2 f : Nat} (h1 : f ≠ 1) (h3 : f ≠ 3) (h4 : f ≠ 4) (h5 : f ≠ 5) (h7 : f ≠ 7) : z_NB N p1 p2 f = N f := by
  unfold z_NB z_NG
  rw [z_sN_f _ _ _ h1, z_sN_f _ _ _ h7, z_sN_f _ _ _ h5, z_sN_f _ _ _ h4, z_sN_f _ _ _ h3]
theorem z_NB_g {N : z_TN} {p1 p2 f g : Nat} (h1 : f ≠ 1) (h7 : f ≠ 7) (hg : g ≠ N 1 0) : z_NB N p1 p2 f g = N f g := by
  unfold z_NB z_NG
  rw [z_sN_f _ _ _ h1, z_sN_f _ _ _ h7]
  have key : ∀ (N : z_TN) f' v g0, g ≠ g0 → z_sN N f' g0 v f g = N f g := fun N f' v g0 hg => by
    by_cases q : f = f'
    · rw [q, z_sN_i _ _ _ hg]
    · rw [z_sN_f _ _ _ q]
  rw [key _ _ _ _ hg, key _ _ _ _ hg, key _ _ _ _ hg]
theorem z_IG_f (I : z_TI) (g : Nat) {f : Nat} (h : f ≠ 6 ∧ f ≠ 7 ∧ f ≠ 8) : z_IG I g f = I f := by
  unfold z_IG
  rw [z_sF_f _ _ _ h.2.2, z_sF_f _ _ _ h.2.1, z_sF_f _ _ _ h.1]
theorem z_S.begin (hS : z_S N O B) (ho : O 0 0 = none) (h60 : N 1 0 < 60) {p1 p2 : Nat} (hp1 : p1 < N 0 0) (hp2 : p2 < N 0 0) : z_S (z_NB N p1 p2) (z_sO O 0 0 (some (N 1 0))) B := by
  obtain ⟨h1, h2, h3, h4, h5, h6, h7, h8', h9, h10, h11, h12⟩ := hS
  have e1 : z_NB N p1 p2 1 0 = N 1 0 + 1 := by simp [z_NB, z_NG, z_sN]
  have e7 : z_NB N p1 p2 7 0 = N 1 0 + 1 := by simp [z_NB, z_NG, z_sN]
  have e3 : z_NB N p1 p2 3 (N 1 0) = p1 := by simp [z_NB, z_NG, z_sN]
  have e4 : z_NB N p1 p2 4 (N 1 0) = p2 := by simp [z_NB, z_NG, z_sN]
  have e5 : z_NB N p1 p2 5 (N 1 0) = 0 := by simp [z_NB, z_NG, z_sN]
  have eo : ∀ f, f ≠ 1 → f ≠ 3 → f ≠ 4 → f ≠ 5 → f ≠ 7 → z_NB N p1 p2 f = N f := fun f a b c d e => z_NB_o a b c d e
  rw [z_S, eo 0 (by decide) (by decide) (by decide) (by decide) (by decide), eo 2 (by decide) (by decide) (by decide) (by decide) (by decide), eo 6 (by decide) (by decide) (by decide) (by decide) (by decide), eo 8 (by decide) (by decide) (by decide) (by decide) (by decide), e1, e7]
  refine ⟨h1, rfl, h3, h4, by omega, h6, fun g hg => ?_, fun g hg => ?_, fun p q hp hq => ?_, h10, h11, h12⟩
  · by_cases q : g = N 1 0
    · subst q
      rw [e3, e4, e5]
      exact ⟨hp1, hp2, by omega⟩
    · rw [z_NB_g (by decide) (by decide) q, z_NB_g (by decide) (by decide) q, z_NB_g (by decide) (by decide) q]
      exact h7 g (by omega)
  · rw [z_sO_s] at hg
    cases hg
    rfl
  · rw [z_sO_f _ _ _ (by decide)] at hq
    exact h9 p q hp hq
def z_mb (M : z_TM) (g : Nat) (x y : Int32) : z_TM := z_sM (z_sM (z_sM (z_sM (z_sM (z_sM M 21 0 0) 8 g x) 9 g y) 6 0 1) 7 0 1) 5 0 (nI (g + 1))
theorem z_J.begin (h : z_J I N O B M) (ho : O 0 0 = none) (h60 : N 1 0 < 60) {p1 p2 : Nat} (hp1 : p1 < N 0 0) (hp2 : p2 < N 0 0) (hne : p1 ≠ p2) : z_J (z_IG I (N 1 0)) (z_NB N p1 p2) (z_sO O 0 0 (some (N 1 0))) B (z_mb M (N 1 0) (nI p1) (nI p2)) := by
  obtain ⟨hS, hZ, hP, hG, hZZ, hL, hB, hM⟩ := h
  have e1 : z_NB N p1 p2 1 0 = N 1 0 + 1 := by simp [z_NB, z_NG, z_sN]
  have e3 : z_NB N p1 p2 3 (N 1 0) = p1 := by simp [z_NB, z_NG, z_sN]
  have e4 : z_NB N p1 p2 4 (N 1 0) = p2 := by simp [z_NB, z_NG, z_sN]
  have e5 : z_NB N p1 p2 5 (N 1 0) = 0 := by simp [z_NB, z_NG, z_sN]
  have eo : ∀ f, f ≠ 1 → f ≠ 3 → f ≠ 4 → f ≠ 5 → f ≠ 7 → z_NB N p1 p2 f = N f := fun f a b c d e => z_NB_o a b c d e
  have eM : ∀ f, f ≠ 5 → f ≠ 6 → f ≠ 7 → f ≠ 8 → f ≠ 9 → f ≠ 21 → z_mb M (N 1 0) (nI p1) (nI p2) f = M f := fun f a b c d e g => by
    unfold z_mb
    rw [z_sM_f _ _ _ a, z_sM_f _ _ _ c, z_sM_f _ _ _ b, z_sM_f _ _ _ e, z_sM_f _ _ _ d, z_sM_f _ _ _ g]
  have eed : z_ed (z_NB N p1 p2) (z_sO O 0 0 (some (N 1 0))) = z_ed N O := by
    unfold z_ed
    rw [z_sO_s, ho, e1]
    rfl
  have m8 : ∀ g, z_mb M (N 1 0) (nI p1) (nI p2) 8 g = upd (M 8) (N 1 0) (nI p1) g := fun g => rfl
  have m9 : ∀ g, z_mb M (N 1 0) (nI p1) (nI p2) 9 g = upd (M 9) (N 1 0) (nI p2) g := fun g => rfl
  refine ⟨hS.begin ho h60 hp1 hp2, hZ.c (fun f a b => z_IG_f I _ (by omega)), hP.c (fun f a => z_IG_f I _ (by omega)) (eo 0 (by decide) (by decide) (by decide) (by decide) (by decide)) (fun f a => eM f (by omega) (by omega) (by omega) (by omega) (by omega) (by omega)), ?_, hZZ.c (z_IG_f I _ (by decide)) (z_IG_f I _ (by decide)) (eo 2 (by decide) (by decide) (by decide) (by decide) (by decide)) (fun f a b => eM f (by omega) (by omega) (by omega) (by omega) (by omega) (by omega)), hL.c (fun f a b => z_IG_f I _ (by omega)) (Nat.le_of_eq eed.symm) (fun f a b => eM f (by omega) (by omega) (by omega) (by omega) (by omega) (by omega)), hB.c (fun f a b => z_IG_f I _ (by omega)), ?_⟩
  · refine ⟨?_, ?_, fun g hg => ?_, fun g hg => ?_, fun g hg => ?_⟩
    · rw [e1]; rfl
    · rw [z_sO_s]; rfl
    · rw [z_sO_s] at hg
      cases hg
      refine ⟨?_, 1, by decide, ?_⟩
      · simp [z_IG, z_sF]; rfl
      · simp [z_IG, z_sF]; rfl
    · rw [e1] at hg
      rw [m8, m9, eM 10 (by decide) (by decide) (by decide) (by decide) (by decide) (by decide), eM 11 (by decide) (by decide) (by decide) (by decide) (by decide) (by decide), eM 12 (by decide) (by decide) (by decide) (by decide) (by decide) (by decide)]
      by_cases q : g = N 1 0
      · subst q
        have h5 := hG.2.2.2.2 (N 1 0) (Nat.le_refl _)
        rw [e3, e4, e5, z_upd_s, z_upd_s, h5.1, h5.2]
        have e7 : z_IG I (N 1 0) 7 (N 1 0) 0 = 0 := by simp [z_IG, z_sF]
        rw [e7]
        exact ⟨rfl, rfl, hne, rfl, rfl, ⟨0, by decide, rfl⟩, fun i hi => absurd hi (Nat.not_lt_zero _)⟩
      · rw [z_upd_n _ _ q, z_upd_n _ _ q, z_IG_i q, z_IG_i q, z_NB_g (by decide) (by decide) q, z_NB_g (by decide) (by decide) q, z_NB_g (by decide) (by decide) q]
        exact hG.2.2.2.1 g (by omega)
    · rw [e1] at hg
      rw [eM 10 (by decide) (by decide) (by decide) (by decide) (by decide) (by decide), eM 11 (by decide) (by decide) (by decide) (by decide) (by decide) (by decide)]
      exact hG.2.2.2.2 g (by omega)
  · intro p q hp
    rw [eo 0 (by decide) (by decide) (by decide) (by decide) (by decide)] at hp
    rw [eed, z_IG_f I _ (by decide)]
    have hlt : z_ed N O ≤ N 1 0 := z_ed_le
    refine (hM p q hp).trans (not_congr ⟨?_, ?_⟩)
    · rintro ⟨g, hg, h⟩
      refine ⟨g, hg, ?_⟩
      rw [z_NB_g (by decide) (by decide) (by omega), z_NB_g (by decide) (by decide) (by omega)]
      exact h
    · rintro ⟨g, hg, h⟩
      refine ⟨g, hg, ?_⟩
      rw [z_NB_g (by decide) (by decide) (by omega), z_NB_g (by decide) (by decide) (by omega)] at h
      exact h
def z_mv1 (M : z_TM) (g c : Nat) (x : Int32) : z_TM := z_sM (z_sM (z_sM (z_sM M 21 0 0) 12 (12 * g + c) x) 10 g (nI (c + 1))) 7 0 (nx (M 7 0) x)
theorem z_J.move (h : z_J I N O B M) {g : Nat} (ho : O 0 0 = some g) (h12 : N 5 g < 12) {x : Int32} (hx : z_rg x 4) : z_J (z_sI (z_sI I 8 g (N 5 g) x) 6 g 0 (nx (I 6 g 0) x)) (z_sN N 5 g (N 5 g + 1)) O B (z_mv1 M g (N 5 g) x) := by
  obtain ⟨hS, hZ, hP, hG, hZZ, hL, hB, hM⟩ := h
  have hg1 : g + 1 = N 1 0 := hS.2.2.2.2.2.2.2.1 g ho
  have eo : ∀ f, f ≠ 5 → z_sN N 5 g (N 5 g + 1) f = N f := fun f a => z_sN_f _ _ _ a
  have eI : ∀ f, f ≠ 6 → f ≠ 8 → z_sI (z_sI I 8 g (N 5 g) x) 6 g 0 (nx (I 6 g 0) x) f = I f := fun f a b => by rw [z_sI_f _ _ _ _ a, z_sI_f _ _ _ _ b]
  have eM : ∀ f, f ≠ 7 → f ≠ 10 → f ≠ 12 → f ≠ 21 → z_mv1 M g (N 5 g) x f = M f := fun f a b c d => by
    unfold z_mv1
    rw [z_sM_f _ _ _ a, z_sM_f _ _ _ b, z_sM_f _ _ _ c, z_sM_f _ _ _ d]
  have m10 : ∀ i, z_mv1 M g (N 5 g) x 10 i = upd (M 10) g (nI (N 5 g + 1)) i := fun i => rfl
  have m12 : ∀ i, z_mv1 M g (N 5 g) x 12 i = upd (M 12) (12 * g + N 5 g) x i := fun i => rfl
  have eed : z_ed (z_sN N 5 g (N 5 g + 1)) O = z_ed N O := z_ed_c (eo 1 (by decide)) rfl
  refine ⟨?_, hZ.c (fun f a b => eI f (by omega) (by omega)), hP.c (fun f a => eI f (by omega) (by omega)) (eo 0 (by decide)) (fun f a => eM f (by omega) (by omega) (by omega) (by omega)), ?_, hZZ.c (eI 9 (by decide) (by decide)) (eI 10 (by decide) (by decide)) (eo 2 (by decide)) (fun f a b => eM f (by omega) (by omega) (by omega) (by omega)), hL.c (fun f a b => eI f (by omega) (by omega)) (Nat.le_of_eq eed.symm) (fun f a b => eM f (by omega) (by omega) (by omega) (by omega)), hB.c (fun f a b => eI f (by omega) (by omega)), hM.c (eI 5 (by decide) (by decide)) (eo 0 (by decide)) (eo 3 (by decide)) (eo 4 (by decide)) eed⟩
  · obtain ⟨h1, h2, h3, h4, h5, h6, h7, h8', h9, h10, h11, h12'⟩ := hS
    rw [z_S, eo 0 (by decide), eo 1 (by decide), eo 2 (by decide), eo 3 (by decide), eo 4 (by decide), eo 6 (by decide), eo 7 (by decide), eo 8 (by decide)]
    refine ⟨h1, h2, h3, h4, h5, h6, fun g' hg => ?_, h8', h9, h10, h11, h12'⟩
    have := h7 g' hg
    by_cases q : g' = g
    · rw [q, z_sN_s]; rw [q] at this; exact ⟨this.1, this.2.1, by omega⟩
    · rw [z_sN_i _ _ _ q]; exact this
  · obtain ⟨h1, h2, h3, h4, h5⟩ := hG
    have h7 := h3 g ho
    refine ⟨by rw [eM 5 (by decide) (by decide) (by decide) (by decide), eo 1 (by decide)]; exact h1, by rw [eM 6 (by decide) (by decide) (by decide) (by decide)]; exact h2, fun g' hg => ?_, fun g' hg => ?_, fun g' hg => ?_⟩
    · rw [ho] at hg
      cases hg
      rw [z_sI_s]
      refine ⟨?_, z_nxg h7.2 hx⟩
      rw [← h7.1]
      rfl
    · rw [eo 1 (by decide)] at hg
      rw [eM 8 (by decide) (by decide) (by decide) (by decide), eM 9 (by decide) (by decide) (by decide) (by decide), eM 11 (by decide) (by decide) (by decide) (by decide), eo 3 (by decide), eo 4 (by decide), eI 7 (by decide) (by decide), m10]
      have h6 := h4 g' hg
      have e8 : ∀ i, z_sI (z_sI I 8 g (N 5 g) x) 6 g 0 (nx (I 6 g 0) x) 8 g' i = z_sI I 8 g (N 5 g) x 8 g' i := fun i => by rw [z_sI_f _ _ _ _ (by decide)]
      by_cases q : g' = g
      · subst q
        rw [z_sN_s, z_upd_s]
        refine ⟨h6.1, h6.2.1, h6.2.2.1, rfl, h6.2.2.2.2.1, h6.2.2.2.2.2.1, fun i hi => ?_⟩
        rw [e8, m12]
        by_cases r : i = N 5 g'
        · rw [r, z_upd_s, z_sI_s]; exact ⟨rfl, hx⟩
        · rw [z_upd_n _ _ (by omega), z_sI_j _ _ _ _ r]
          exact h6.2.2.2.2.2.2 i (by omega)
      · rw [z_sN_i _ _ _ q, z_upd_n _ _ q]
        refine ⟨h6.1, h6.2.1, h6.2.2.1, h6.2.2.2.1, h6.2.2.2.2.1, h6.2.2.2.2.2.1, fun i hi => ?_⟩
        have h12g := (hS.2.2.2.2.2.2.1 g' hg).2.2
        rw [e8, m12, z_upd_n _ _ (by omega), z_sI_i _ _ _ _ q]
        exact h6.2.2.2.2.2.2 i hi
    · rw [eo 1 (by decide)] at hg
      rw [eM 11 (by decide) (by decide) (by decide) (by decide), m10, z_upd_n _ _ (by omega)]
      exact h5 g' hg
def z_ms (M : z_TM) (p z t : Nat) (v : Int32) : z_TM := z_sM (z_sM (z_sM M 21 0 0) 4 (40 * p + z) 1) 3 (5 * p + t) v
theorem z_J.solve (h : z_J I N O B M) {p z t : Nat} (hp : p < N 0 0) (hz : z < 40) (ht : t < 5) {v : Int32} (hv : z_rg v 3001) : z_J (z_sI (z_sI I 4 p z 1) 3 p t v) N O B (z_ms M p z t v) := by
  obtain ⟨hS, hZ, hP, hG, hZZ, hL, hB, hM⟩ := h
  have eI : ∀ f, f ≠ 3 → f ≠ 4 → z_sI (z_sI I 4 p z 1) 3 p t v f = I f := fun f a b => by rw [z_sI_f _ _ _ _ a, z_sI_f _ _ _ _ b]
  have eM : ∀ f, f ≠ 3 → f ≠ 4 → f ≠ 21 → z_ms M p z t v f = M f := fun f a b c => by
    unfold z_ms
    rw [z_sM_f _ _ _ a, z_sM_f _ _ _ b, z_sM_f _ _ _ c]
  have m3 : ∀ i, z_ms M p z t v 3 i = upd (M 3) (5 * p + t) v i := fun i => rfl
  have m4 : ∀ i, z_ms M p z t v 4 i = upd (M 4) (40 * p + z) 1 i := fun i => rfl
  have e3 : ∀ p' t', z_sI (z_sI I 4 p z 1) 3 p t v 3 p' t' = z_sI I 3 p t v 3 p' t' := fun p' t' => by
    by_cases q : p' = p ∧ t' = t
    · rw [q.1, q.2, z_sI_s, z_sI_s]
    · rw [z_sI_ne _ _ (fun z => q z.2), z_sI_ne _ _ (fun z => q z.2), z_sI_f _ _ _ _ (by decide)]
  have e4 : ∀ p' t', z_sI (z_sI I 4 p z 1) 3 p t v 4 p' t' = z_sI I 4 p z 1 4 p' t' := fun p' t' => by rw [z_sI_f _ _ _ _ (by decide)]
  refine ⟨hS, hZ.c (fun f a b => eI f (by omega) (by omega)), ?_, hG.c (fun f a b => eI f (by omega) (by omega)) rfl rfl rfl rfl rfl (fun f a b => eM f (by omega) (by omega) (by omega)), hZZ.c (eI 9 (by decide) (by decide)) (eI 10 (by decide) (by decide)) rfl (fun f a b => eM f (by omega) (by omega) (by omega)), hL.c (fun f a b => eI f (by omega) (by omega)) (Nat.le_refl _) (fun f a b => eM f (by omega) (by omega) (by omega)), hB.c (fun f a b => eI f (by omega) (by omega)), hM.c (eI 5 (by decide) (by decide)) rfl rfl rfl rfl⟩
  refine ⟨by rw [eM 0 (by decide) (by decide) (by decide)]; exact hP.1, fun p' hp' => ?_, fun p' hp' => ?_⟩
  · have h3 := hP.2.1 p' hp'
    rw [eM 1 (by decide) (by decide) (by decide), eM 2 (by decide) (by decide) (by decide), eI 0 (by decide) (by decide), eI 1 (by decide) (by decide), eI 2 (by decide) (by decide)]
    refine ⟨h3.1, h3.2.1, fun t' ht' => ?_, fun z' hz' => ?_⟩
    · rw [e3, m3]
      by_cases q : p' = p ∧ t' = t
      · obtain ⟨rfl, rfl⟩ := q
        rw [z_upd_s, z_sI_s]
        exact ⟨rfl, hv⟩
      · rw [z_upd_n _ _ (by omega), z_sI_ne _ _ (fun z => q z.2)]
        exact h3.2.2.1 t' ht'
    · rw [e4, m4]
      by_cases q : p' = p ∧ z' = z
      · obtain ⟨rfl, rfl⟩ := q
        rw [z_upd_s, z_sI_s]
      · rw [z_upd_n _ _ (by omega), z_sI_ne _ _ (fun z => q z.2)]
        exact h3.2.2.2 z' hz'
  · have h3 := hP.2.2 p' hp'
    rw [eM 1 (by decide) (by decide) (by decide), eM 2 (by decide) (by decide) (by decide)]
    refine ⟨h3.1, h3.2.1, fun z' hz' => ?_⟩
    rw [m4, z_upd_n _ _ (by omega)]
    exact h3.2.2 z' hz'
def z_mz (M : z_TM) (nz : Nat) (x gm : Int32) : z_TM := z_sM (z_sM (z_sM M 14 nz x) 15 nz gm) 13 0 (nI (nz + 1))
theorem z_J.addZ (h : z_J I N O B M) (h40 : N 2 0 < 40) {x gm : Int32} (hx : z_rg x 1000) : z_J (z_IZ I (N 2 0) x gm) (z_NZ N) O B (z_mz M (N 2 0) x gm) := by
  obtain ⟨hS, hZ, hP, hG, hZZ, hL, hB, hM⟩ := h
  have e2 : z_NZ N 2 0 = N 2 0 + 1 := by simp [z_NZ, z_sN]
  have e8 : z_NZ N 8 0 = N 2 0 + 1 := by simp [z_NZ, z_sN]
  have eo : ∀ f, f ≠ 2 → f ≠ 8 → z_NZ N f = N f := fun f a b => by
    unfold z_NZ; rw [z_sN_f _ _ _ a, z_sN_f _ _ _ b]
  have eI : ∀ f, f ≠ 9 → f ≠ 10 → z_IZ I (N 2 0) x gm f = I f := fun f a b => by
    unfold z_IZ; rw [z_sF_f _ _ _ b, z_sF_f _ _ _ a]
  have eM : ∀ f, f ≠ 13 → f ≠ 14 → f ≠ 15 → z_mz M (N 2 0) x gm f = M f := fun f a b c => by
    unfold z_mz
    rw [z_sM_f _ _ _ a, z_sM_f _ _ _ c, z_sM_f _ _ _ b]
  have eed : z_ed (z_NZ N) O = z_ed N O := z_ed_c (eo 1 (by decide) (by decide)) rfl
  refine ⟨?_, hZ.c (fun f a b => eI f (by omega) (by omega)), hP.c (fun f a => eI f (by omega) (by omega)) (eo 0 (by decide) (by decide)) (fun f a => eM f (by omega) (by omega) (by omega)), hG.c (fun f a b => eI f (by omega) (by omega)) (eo 1 (by decide) (by decide)) (eo 3 (by decide) (by decide)) (eo 4 (by decide) (by decide)) (eo 5 (by decide) (by decide)) rfl (fun f a b => eM f (by omega) (by omega) (by omega)), ?_, hL.c (fun f a b => eI f (by omega) (by omega)) (Nat.le_of_eq eed.symm) (fun f a b => eM f (by omega) (by omega) (by omega)), hB.c (fun f a b => eI f (by omega) (by omega)), hM.c (eI 5 (by decide) (by decide)) (eo 0 (by decide) (by decide)) (eo 3 (by decide) (by decide)) (eo 4 (by decide) (by decide)) eed⟩
  · obtain ⟨h1, h2, h3, h4, h5, h6, h7, h8', h9, h10, h11, h12'⟩ := hS
    rw [z_S, eo 0 (by decide) (by decide), eo 1 (by decide) (by decide), e2, eo 3 (by decide) (by decide), eo 4 (by decide) (by decide), eo 5 (by decide) (by decide), eo 6 (by decide) (by decide), eo 7 (by decide) (by decide), e8]
    exact ⟨h1, h2, rfl, h4, h5, by omega, h7, h8', h9, h10, h11, h12'⟩
  · refine ⟨by rw [e2]; rfl, fun z hz => ?_⟩
    rw [e2] at hz
    have m14 : z_mz M (N 2 0) x gm 14 z = upd (M 14) (N 2 0) x z := rfl
    have m15 : z_mz M (N 2 0) x gm 15 z = upd (M 15) (N 2 0) gm z := rfl
    rw [m14, m15]
    by_cases q : z = N 2 0
    · subst q
      rw [z_upd_s, z_upd_s]
      refine ⟨?_, ?_, ?_⟩
      · simp [z_IZ, z_sF]
      · simp [z_IZ, z_sF]
      · have : z_IZ I (N 2 0) x gm 9 (N 2 0) 0 = x := by simp [z_IZ, z_sF]
        rw [this]; exact hx
    · rw [z_upd_n _ _ q, z_upd_n _ _ q]
      have e9 : ∀ f, z_IZ I (N 2 0) x gm f z = I f z := fun f => by
        unfold z_IZ
        rw [z_sF_ne _ _ q, z_sF_ne _ _ q]
      rw [e9, e9]
      exact hZZ.2 z (by omega)
end RB

