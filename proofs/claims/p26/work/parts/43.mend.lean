/-! a game ends: the two players' books -/
def z_me (M : z_TM) (g p q : Nat) (x : Int32) : z_TM := z_sM (z_sM (z_sM (z_sM (z_sM (z_sM (z_sM M 21 0 0) 6 0 0) 11 g x) 1 p (M 1 p + x)) 1 q (M 1 q + (2 - x))) 2 p (M 2 p + 1)) 2 q (M 2 q - 1)
section EA
variable {I : z_TI} {N : z_TN} {O : z_TO} {B : z_TB} {M : z_TM}
theorem z_e2_f {g : Nat} {x : Int32} {f : Nat} (h0 : f ≠ 0) (h1 : f ≠ 1) (h2 : f ≠ 2) (h5 : f ≠ 5) (h7 : f ≠ 7) : z_e2 I N g x f = I f := by
  unfold z_e2 z_e1 eg
  dsimp only
  rw [z_sI_f _ _ _ _ h5, z_sI_f _ _ _ _ h2, z_sI_f _ _ _ _ h1, z_sI_f _ _ _ _ h5, z_sI_f _ _ _ _ h2, z_sI_f _ _ _ _ h0, z_sI_f _ _ _ _ h7]
theorem z_e2_0 {g : Nat} {x : Int32} (p : Nat) : z_e2 I N g x 0 p 0 = if p = N 3 g then I 0 p 0 + 1 else I 0 p 0 := by
  unfold z_e2 z_e1 eg
  dsimp only
  rw [z_sI_f _ _ _ _ (by decide), z_sI_f _ _ _ _ (by decide), z_sI_f _ _ _ _ (by decide), z_sI_f _ _ _ _ (by decide), z_sI_f _ _ _ _ (by decide)]
  by_cases h : p = N 3 g
  · rw [h, if_pos rfl, z_sI_s, z_sI_f _ _ _ _ (by decide)]
  · rw [if_neg h, z_sI_i _ _ _ _ h, z_sI_f _ _ _ _ (by decide)]
theorem z_e2_1 {g : Nat} {x : Int32} (p : Nat) : z_e2 I N g x 1 p 0 = if p = N 4 g then I 1 p 0 + 1 else I 1 p 0 := by
  have e : ∀ p, z_e1 I N g x 1 p 0 = I 1 p 0 := fun p => by
    unfold z_e1 eg
    rw [z_sI_f _ _ _ _ (by decide), z_sI_f _ _ _ _ (by decide), z_sI_f _ _ _ _ (by decide), z_sI_f _ _ _ _ (by decide)]
  unfold z_e2
  unfold eg
  rw [z_sI_f _ _ _ _ (by decide), z_sI_f _ _ _ _ (by decide)]
  by_cases h : p = N 4 g
  · rw [h, if_pos rfl, z_sI_s, e]
  · rw [if_neg h, z_sI_i _ _ _ _ h, e]
theorem z_e2_2 {g : Nat} {x : Int32} (hne : N 3 g ≠ N 4 g) (p : Nat) : z_e2 I N g x 2 p 0 = if p = N 3 g then I 2 p 0 + x else if p = N 4 g then I 2 p 0 + (2 - x) else I 2 p 0 := by
  have e : ∀ p, z_e1 I N g x 2 p 0 = if p = N 3 g then I 2 p 0 + x else I 2 p 0 := fun p => by
    unfold z_e1 eg
    rw [z_sI_f _ _ _ _ (by decide)]
    by_cases h : p = N 3 g
    · rw [h, if_pos rfl, z_sI_s, z_sI_f _ _ _ _ (by decide), z_sI_f _ _ _ _ (by decide)]
    · rw [if_neg h, z_sI_i _ _ _ _ h, z_sI_f _ _ _ _ (by decide), z_sI_f _ _ _ _ (by decide)]
  unfold z_e2
  unfold eg
  rw [z_sI_f _ _ _ _ (by decide)]
  by_cases h4 : p = N 4 g
  · have h3 : ¬ p = N 3 g := fun z => hne (z.symm.trans h4)
    rw [if_neg h3, if_pos h4, h4, z_sI_s, z_sI_f _ _ _ _ (by decide), e, if_neg (fun z => hne z.symm)]
  · rw [z_sI_i _ _ _ _ h4, z_sI_f _ _ _ _ (by decide), e]
    by_cases h3 : p = N 3 g
    · rw [if_pos h3, if_pos h3]
    · rw [if_neg h3, if_neg h3, if_neg h4]
theorem z_e2_5 {g : Nat} {x : Int32} (p q : Nat) : z_e2 I N g x 5 p q = if (p = N 3 g ∧ q = N 4 g) ∨ (p = N 4 g ∧ q = N 3 g) then 1 else I 5 p q := by
  have e : z_e1 I N g x 5 p q = if (p = N 3 g ∧ q = N 4 g) then 1 else I 5 p q := by
    unfold z_e1 eg
    by_cases h : p = N 3 g ∧ q = N 4 g
    · rw [if_pos h, h.1, h.2, z_sI_s]
    · rw [if_neg h, z_sI_ne _ _ (fun z => h z.2), z_sI_f _ _ _ _ (by decide), z_sI_f _ _ _ _ (by decide), z_sI_f _ _ _ _ (by decide)]
  unfold z_e2
  unfold eg
  by_cases h : p = N 4 g ∧ q = N 3 g
  · rw [if_pos (Or.inr h), h.1, h.2, z_sI_s]
  · rw [z_sI_ne _ _ (fun z => h z.2), z_sI_f _ _ _ _ (by decide), z_sI_f _ _ _ _ (by decide), e]
    by_cases h2 : p = N 3 g ∧ q = N 4 g
    · rw [if_pos h2, if_pos (Or.inl h2)]
    · rw [if_neg h2, if_neg (fun z => z.elim h2 h)]
theorem z_e2_7 {g : Nat} {x : Int32} (i : Nat) : z_e2 I N g x 7 i 0 = if i = g then x else I 7 i 0 := by
  unfold z_e2 z_e1 eg
  dsimp only
  rw [z_sI_f _ _ _ _ (by decide), z_sI_f _ _ _ _ (by decide), z_sI_f _ _ _ _ (by decide), z_sI_f _ _ _ _ (by decide), z_sI_f _ _ _ _ (by decide), z_sI_f _ _ _ _ (by decide)]
  by_cases h : i = g
  · rw [h, if_pos rfl, z_sI_s]
  · rw [if_neg h, z_sI_i _ _ _ _ h]
theorem z_me_f {g p q : Nat} {x : Int32} {f : Nat} (h : f ≠ 21) (h6 : f ≠ 6) (h11 : f ≠ 11) (h1 : f ≠ 1) (h2 : f ≠ 2) : z_me M g p q x f = M f := by
  unfold z_me
  rw [z_sM_f _ _ _ h2, z_sM_f _ _ _ h2, z_sM_f _ _ _ h1, z_sM_f _ _ _ h1, z_sM_f _ _ _ h11, z_sM_f _ _ _ h6, z_sM_f _ _ _ h]
theorem z_me_1 {g p q : Nat} {x : Int32} (hne : p ≠ q) (i : Nat) : z_me M g p q x 1 i = if i = p then M 1 i + x else if i = q then M 1 i + (2 - x) else M 1 i := by
  show upd (upd (M 1) p (M 1 p + x)) q (M 1 q + (2 - x)) i = _
  by_cases h2 : i = q
  · rw [h2, z_upd_s, if_neg (Ne.symm hne), if_pos rfl]
  · rw [z_upd_n _ _ h2]
    by_cases h1 : i = p
    · rw [h1, z_upd_s, if_pos rfl]
    · rw [z_upd_n _ _ h1, if_neg h1, if_neg h2]
theorem z_me_2 {g p q : Nat} {x : Int32} (hne : p ≠ q) (i : Nat) : z_me M g p q x 2 i = if i = p then M 2 i + 1 else if i = q then M 2 i - 1 else M 2 i := by
  show upd (upd (M 2) p (M 2 p + 1)) q (M 2 q - 1) i = _
  by_cases h2 : i = q
  · rw [h2, z_upd_s, if_neg (Ne.symm hne), if_pos rfl]
  · rw [z_upd_n _ _ h2]
    by_cases h1 : i = p
    · rw [h1, z_upd_s, if_pos rfl]
    · rw [z_upd_n _ _ h1, if_neg h1, if_neg h2]
theorem z_cb1 (a b : Int32) : a - b + 1 = a + 1 - b := by
  rw [Int32.sub_eq_add_neg, Int32.sub_eq_add_neg, Int32.add_assoc, Int32.add_comm (-b), ← Int32.add_assoc]
theorem z_cb2 (a b : Int32) : a - b - 1 = a - (b + 1) := by
  rw [Int32.sub_eq_add_neg (a - b), Int32.sub_eq_add_neg a b, Int32.sub_eq_add_neg a (b + 1), Int32.neg_add, Int32.sub_eq_add_neg (-b), Int32.add_assoc]
theorem z_J.endA (h : z_J I N O B M) {g : Nat} (ho : O 0 0 = some g) {x : Int32} (hx : z_rg x 3) : z_J (z_e2 I N g x) N (z_sO O 0 0 none) B (z_me M g (N 3 g) (N 4 g) x) ∧ z_Jl (z_e2 I N g x) (z_me M g (N 3 g) (N 4 g) x) (fun _ => z_ed N O) ∧ z_ed N (z_sO O 0 0 none) = z_ed N O + 1 := by
  obtain ⟨hS, hZ, hP, hG, hZZ, hL, hB, hM⟩ := h
  have hg1 : g + 1 = N 1 0 := hS.2.2.2.2.2.2.2.1 g ho
  have hgn := hG.2.2.2.1 g (by omega)
  have hne := hgn.2.2.1
  have hpq := hS.2.2.2.2.2.2.1 g (by omega)
  have eI : ∀ f, f ≠ 0 → f ≠ 1 → f ≠ 2 → f ≠ 5 → f ≠ 7 → z_e2 I N g x f = I f := fun f a b c d e => z_e2_f a b c d e
  have eM : ∀ f, f ≠ 21 → f ≠ 6 → f ≠ 11 → f ≠ 1 → f ≠ 2 → z_me M g (N 3 g) (N 4 g) x f = M f := fun f a b c d e => z_me_f a b c d e
  have eO : z_sO O 0 0 none 0 0 = none := z_sO_s _ _ _ _
  have ed0 : z_ed N O = g := by unfold z_ed; rw [ho]; dsimp only; omega
  have ed1 : z_ed N (z_sO O 0 0 none) = g + 1 := by unfold z_ed; rw [eO]; exact hg1.symm
  have hL0 : z_Jl (z_e2 I N g x) (z_me M g (N 3 g) (N 4 g) x) (fun _ => z_ed N O) := by
    unfold z_Jl
    rw [eI 11 (by decide) (by decide) (by decide) (by decide) (by decide), eI 12 (by decide) (by decide) (by decide) (by decide) (by decide), eI 13 (by decide) (by decide) (by decide) (by decide) (by decide), eM 16 (by decide) (by decide) (by decide) (by decide) (by decide), eM 17 (by decide) (by decide) (by decide) (by decide) (by decide), eM 18 (by decide) (by decide) (by decide) (by decide) (by decide)]
    exact hL
  refine ⟨⟨hS.setO, hZ.c (fun f a b => eI f (by omega) (by omega) (by omega) (by omega) (by omega)), ?_, ?_, hZZ.c (eI 9 (by decide) (by decide) (by decide) (by decide) (by decide)) (eI 10 (by decide) (by decide) (by decide) (by decide) (by decide)) rfl (fun f a b => eM f (by omega) (by omega) (by omega) (by omega) (by omega)), hL.c (fun f a b => eI f (by omega) (by omega) (by omega) (by omega) (by omega)) (by rw [ed0, ed1]; omega) (fun f a b => eM f (by omega) (by omega) (by omega) (by omega) (by omega)), hB.c (fun f a b => eI f (by omega) (by omega) (by omega) (by omega) (by omega)), ?_⟩, hL0, by rw [ed0, ed1]⟩
  · refine ⟨by rw [eM 0 (by decide) (by decide) (by decide) (by decide) (by decide)]; exact hP.1, fun p hp => ?_, fun p hp => ?_⟩
    · have h3 := hP.2.1 p hp
      rw [z_me_1 hne, z_me_2 hne, z_e2_2 hne, z_e2_0, z_e2_1, eM 3 (by decide) (by decide) (by decide) (by decide) (by decide), eM 4 (by decide) (by decide) (by decide) (by decide) (by decide), eI 3 (by decide) (by decide) (by decide) (by decide) (by decide), eI 4 (by decide) (by decide) (by decide) (by decide) (by decide), h3.1, h3.2.1]
      refine ⟨rfl, ?_, h3.2.2⟩
      by_cases q3 : p = N 3 g
      · rw [if_pos q3, if_pos q3, if_neg (fun z => hne (q3.symm.trans z))]
        exact z_cb1 _ _
      · rw [if_neg q3, if_neg q3]
        by_cases q4 : p = N 4 g
        · rw [if_pos q4, if_pos q4]; exact z_cb2 _ _
        · rw [if_neg q4, if_neg q4]
    · have h3 := hP.2.2 p hp
      rw [z_me_1 hne, z_me_2 hne, if_neg (by omega), if_neg (by omega), if_neg (by omega), if_neg (by omega), eM 4 (by decide) (by decide) (by decide) (by decide) (by decide)]
      exact h3
  · obtain ⟨h1, h2, h3, h4, h5⟩ := hG
    have m11 : ∀ i, z_me M g (N 3 g) (N 4 g) x 11 i = upd (M 11) g x i := fun i => rfl
    refine ⟨by rw [eM 5 (by decide) (by decide) (by decide) (by decide) (by decide)]; exact h1, by rw [eO]; rfl, fun g' hg => (by rw [eO] at hg; cases hg), fun g' hg => ?_, fun g' hg => ?_⟩
    · have h6 := h4 g' hg
      rw [eM 8 (by decide) (by decide) (by decide) (by decide) (by decide), eM 9 (by decide) (by decide) (by decide) (by decide) (by decide), eM 10 (by decide) (by decide) (by decide) (by decide) (by decide), eM 12 (by decide) (by decide) (by decide) (by decide) (by decide), eI 8 (by decide) (by decide) (by decide) (by decide) (by decide), m11, z_e2_7]
      refine ⟨h6.1, h6.2.1, h6.2.2.1, h6.2.2.2.1, ?_, ?_, h6.2.2.2.2.2.2⟩
      · by_cases q : g' = g
        · rw [q, z_upd_s, if_pos rfl]
        · rw [z_upd_n _ _ q, if_neg q]; exact h6.2.2.2.2.1
      · by_cases q : g' = g
        · rw [if_pos q]; exact hx
        · rw [if_neg q]; exact h6.2.2.2.2.2.1
    · rw [eM 10 (by decide) (by decide) (by decide) (by decide) (by decide), m11, z_upd_n _ _ (by omega)]
      exact h5 g' hg
  · intro p q hp
    have h5 := hM p q hp
    rw [z_e2_5, ed1]
    rw [ed0] at h5
    by_cases hc : (p = N 3 g ∧ q = N 4 g) ∨ (p = N 4 g ∧ q = N 3 g)
    · rw [if_pos hc]
      refine ⟨fun z => absurd z (by decide), fun z => absurd ⟨g, Nat.lt_succ_self _, ?_⟩ z⟩
      rcases hc with ⟨a, b⟩ | ⟨a, b⟩
      · exact Or.inl ⟨a.symm, b.symm⟩
      · exact Or.inr ⟨b.symm, a.symm⟩
    · rw [if_neg hc]
      refine h5.trans (not_congr ⟨?_, ?_⟩)
      · rintro ⟨g', a, b⟩
        exact ⟨g', by omega, b⟩
      · rintro ⟨g', a, b⟩
        by_cases r : g' = g
        · subst r
          exact absurd (b.elim (fun b => Or.inl ⟨b.1.symm, b.2.symm⟩) (fun b => Or.inr ⟨b.2.symm, b.1.symm⟩)) hc
        · exact ⟨g', by omega, b⟩
end EA

