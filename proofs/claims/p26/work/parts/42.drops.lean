/-! what is dropped, line by line; the shape of the book kept -/
section DR
variable {mv : Nat → Nat} {I1 : z_TI} {B1 : z_TB} {kn : Nat}
theorem z_db_h (h6 : kn ≤ 6) (hmv : ∀ i, i < kn → mv i < 4) (hB : ∀ n, 0 < n → n ≤ kn → (∀ k, 0 < k → k < n → I1 13 k (z_px mv k) = 0) → B1 n (z_px mv n) = true) (h01 : ∀ n l, 1 ≤ n → n ≤ 6 → l < 4 ^ n → (I1 13 n l = 0 ∨ I1 13 n l = 1)) (hnb : ∀ n l, 1 ≤ n → n ≤ 6 → l < 4 ^ n → (∀ k, 1 ≤ k → k ≤ n → I1 13 k (l % 4 ^ k) = 0) → ¬ (n ≤ kn ∧ l = z_px mv n) → ¬ z_bd I1 n l) :
    (∀ n l, 1 ≤ n → n ≤ 6 → l < 4 ^ n → (z_db mv kn I1 B1 0 13 n l ≠ 0 ↔ (I1 13 n l ≠ 0 ∨ (z_bd I1 n l ∧ ∀ k, 1 ≤ k → k < n → z_db mv kn I1 B1 0 13 k (l % 4 ^ k) = 0)))) ∧ (∀ n l, 1 ≤ n → n ≤ 6 → l < 4 ^ n → (z_db mv kn I1 B1 0 13 n l = 0 ∨ z_db mv kn I1 B1 0 13 n l = 1)) ∧ (∀ f, f ≠ 13 → z_db mv kn I1 B1 0 f = I1 f) := by
  have hal : ∀ n l, l < 4 ^ n → (∀ k, 1 ≤ k → k < n → I1 13 k (l % 4 ^ k) = 0) → I1 13 n l = 0 → ∀ k, 1 ≤ k → k ≤ n → I1 13 k (l % 4 ^ k) = 0 := fun n l hl h h0 k a b => by
    by_cases q : k = n
    · rw [q, Nat.mod_eq_of_lt hl]; exact h0
    · exact h k a (by omega)
  rcases z_db_s (mv := mv) (I := I1) (B := B1) kn 0 (fun n a b c => hB n a (by omega) c) with ⟨e, h⟩ | ⟨d, d1, d2, e, h4, h5, h7⟩
  · rw [e]
    refine ⟨fun n l a b c => ⟨Or.inl, ?_⟩, h01, fun _ _ => rfl⟩
    rintro (q | ⟨q1, q2⟩)
    · exact q
    · intro h0
      have al := hal n l c q2 h0
      by_cases hp : n ≤ kn ∧ l = z_px mv n
      · obtain ⟨hp1, rfl⟩ := hp
        refine h n a (by omega) (fun k x y => ?_) q1
        have := al k x y
        rw [z_px_le hmv n y hp1] at this
        exact this
      · exact hnb n l a b c al hp q1
  · rw [e]
    have ed : ∀ n l, ¬ (n = d ∧ l = z_px mv d) → z_sI I1 13 d (z_px mv d) 1 13 n l = I1 13 n l := fun n l q => z_sI_ne _ _ (fun z => q z.2)
    refine ⟨fun n l a b c => ?_, fun n l a b c => ?_, fun f hf => z_sI_f _ _ _ _ hf⟩
    · by_cases q : n = d ∧ l = z_px mv d
      · obtain ⟨rfl, rfl⟩ := q
        rw [z_sI_s]
        refine ⟨fun _ => Or.inr ⟨h5, fun k x y => ?_⟩, fun _ => by decide⟩
        rw [z_px_le hmv n (Nat.le_of_lt y) (by omega), ed _ _ (fun z => by omega)]
        exact h4 k x (by omega)
      · rw [ed _ _ q]
        refine ⟨Or.inl, ?_⟩
        rintro (r | ⟨q1, q2⟩)
        · exact r
        · intro h0
          have hlow : ∀ k, 1 ≤ k → k < n → I1 13 k (l % 4 ^ k) = 0 ∧ ¬ (k = d ∧ l % 4 ^ k = z_px mv d) := fun k x y => by
            have := q2 k x y
            by_cases z : k = d ∧ l % 4 ^ k = z_px mv d
            · rw [z.2, z.1, z_sI_s] at this
              exact absurd this (by decide)
            · rw [ed _ _ z] at this
              exact ⟨this, z⟩
          have al := hal n l c (fun k x y => (hlow k x y).1) h0
          by_cases hp : n ≤ kn ∧ l = z_px mv n
          · obtain ⟨hp1, rfl⟩ := hp
            by_cases z : n < d
            · exact h7 n a z q1
            · by_cases z2 : n = d
              · exact q ⟨z2, by rw [z2]⟩
              · exact (hlow d d1 (by omega)).2 ⟨rfl, z_px_le hmv n (by omega) hp1⟩
          · exact hnb n l a b c al hp q1
    · by_cases q : n = d ∧ l = z_px mv d
      · rw [q.1, q.2, z_sI_s]; exact Or.inr rfl
      · rw [ed _ _ q]; exact h01 n l a b c
theorem z_ar_S {N : z_TN} {O : z_TO} {r : Int32} {n : Nat} (hmv : ∀ i, i < n → mv i < 4) (h6 : n ≤ 6) : ∀ (m : Nat) (I : z_TI) (B : z_TB) (i : Nat), i + m ≤ n → z_S N O B → z_Z I B → B i (z_px mv i) = true → z_S N O (z_ar mv r m I B i).2 ∧ z_Z (z_ar mv r m I B i).1 (z_ar mv r m I B i).2
  | 0, _, _, _, _, hS, hZ, _ => ⟨hS, hZ⟩
  | m + 1, I, B, i, hi, hS, hZ, hB => by
    have hp := z_px_lt hmv (i + 1) (by omega)
    have hS2 : z_S N O (z_sB B (i + 1) (z_px mv (i + 1))) := hS.addB (by omega) hp (by rw [z_px_mod hmv (by omega)]; exact hB)
    have hZ2 := hZ.addB (i + 1) (z_px mv (i + 1))
    rw [z_ar]
    split
    · exact z_ar_S hmv h6 m _ _ (i + 1) (by omega) hS2 ((hZ2.putI (z_sB_s _ _ _) _).putI (z_sB_s _ _ _) _) (z_sB_s _ _ _)
    · exact ⟨hS2, hZ2⟩
theorem z_db_Z : ∀ (m i : Nat), z_Z I1 B1 → z_Z (z_db mv m I1 B1 i) B1
  | 0, _, h => h
  | m + 1, i, h => by
    rw [z_db]
    split
    · rename_i q
      by_cases hb : bad (I1 11 (i + 1) (z_px mv (i + 1))) (I1 12 (i + 1) (z_px mv (i + 1))) (if i % 2 = 0 then 1 else 0)
      · rw [if_pos hb]; exact h.putI q.1 _
      · rw [if_neg hb]; exact z_db_Z m (i + 1) h
    · exact h
end DR

