/-! the book: what a result and a drop do, told line by line -/
theorem z_px_le {mv : Nat → Nat} {n : Nat} (h : ∀ i, i < n → mv i < 4) {k : Nat} : ∀ j, k ≤ j → j ≤ n → z_px mv j % 4 ^ k = z_px mv k := by
  intro j hkj
  induction hkj with
  | refl => intro hj; exact Nat.mod_eq_of_lt (z_px_lt h k hj)
  | @step j hkj ih =>
    intro hj
    have hkj : k ≤ j := hkj
    have e : (4 : Nat) ^ j = 4 ^ (j - k) * 4 ^ k := by rw [← Nat.pow_add, Nat.sub_add_cancel hkj]
    show (z_px mv j + mv j * 4 ^ j) % 4 ^ k = _
    rw [e, ← Nat.mul_assoc, Nat.add_mul_mod_self_right]
    exact ih (by omega)
section BK
variable {mv : Nat → Nat} {r : Int32}
theorem z_arf {f : Nat} (h1 : f ≠ 11) (h2 : f ≠ 12) : ∀ (m : Nat) (I : z_TI) (B : z_TB) (i : Nat), (z_ar mv r m I B i).1 f = I f
  | 0, _, _, _ => rfl
  | m + 1, I, B, i => by
    rw [z_ar]
    split
    · rw [z_arf h1 h2 m, z_sI_f _ _ _ _ h2, z_sI_f _ _ _ _ h1]
    · rfl
theorem z_ar_Bm : ∀ (m : Nat) (I : z_TI) (B : z_TB) (i a b : Nat), B a b = true → (z_ar mv r m I B i).2 a b = true
  | 0, _, _, _, _, _, h => h
  | m + 1, I, B, i, a, b, h => by
    rw [z_ar]
    split
    · exact z_ar_Bm m _ _ _ a b (z_sB_m h)
    · exact z_sB_m h
theorem z_ar_B : ∀ (m : Nat) (I : z_TI) (B : z_TB) (i n : Nat), i < n → n ≤ i + m → (∀ k, i < k → k < n → I 13 k (z_px mv k) = 0) → (z_ar mv r m I B i).2 n (z_px mv n) = true
  | 0, _, _, i, n, h1, h2, _ => by omega
  | m + 1, I, B, i, n, h1, h2, h => by
    rw [z_ar]
    by_cases q : n = i + 1
    · subst q
      split
      · exact z_ar_Bm m _ _ _ _ _ (z_sB_s _ _ _)
      · exact z_sB_s _ _ _
    · rw [if_pos (h (i + 1) (by omega) (by omega))]
      refine z_ar_B m _ _ (i + 1) n (by omega) (by omega) (fun k a b => ?_)
      rw [z_sI_f _ _ _ _ (by decide), z_sI_f _ _ _ _ (by decide)]
      exact h k (by omega) b
theorem z_ar_o : ∀ (m : Nat) (I : z_TI) (B : z_TB) (i n l : Nat), (∀ k, i < k → k ≤ i + m → ¬ (n = k ∧ l = z_px mv k)) → (z_ar mv r m I B i).1 11 n l = I 11 n l ∧ (z_ar mv r m I B i).1 12 n l = I 12 n l
  | 0, _, _, _, _, _, _ => ⟨rfl, rfl⟩
  | m + 1, I, B, i, n, l, h => by
    have h0 := h (i + 1) (by omega) (by omega)
    rw [z_ar]
    split
    · have := z_ar_o m (z_sI (z_sI I 11 (i + 1) (z_px mv (i + 1)) (I 11 (i + 1) (z_px mv (i + 1)) + 1)) 12 (i + 1) (z_px mv (i + 1)) (I 12 (i + 1) (z_px mv (i + 1)) + r)) (z_sB B (i + 1) (z_px mv (i + 1))) (i + 1) n l (fun k a b => h k (by omega) (by omega))
      rw [this.1, this.2, z_sI_ne _ _ (fun z => h0 z.2), z_sI_ne _ _ (fun z => h0 z.2), z_sI_ne _ _ (fun z => h0 z.2), z_sI_ne _ _ (fun z => h0 z.2)]
      exact ⟨rfl, rfl⟩
    · exact ⟨rfl, rfl⟩
def z_bd (I : z_TI) (n l : Nat) : Prop := bad (I 11 n l) (I 12 n l) (if n % 2 = 1 then 1 else 0)
theorem z_bd_i {I : z_TI} {i l : Nat} : bad (I 11 (i + 1) l) (I 12 (i + 1) l) (if i % 2 = 0 then 1 else 0) ↔ z_bd I (i + 1) l := by
  unfold z_bd
  by_cases h : i % 2 = 0
  · rw [if_pos h, if_pos (by omega)]
  · rw [if_neg h, if_neg (by omega)]
/-- what a drop is -/
theorem z_db_s {I : z_TI} {B : z_TB} : ∀ (m i : Nat), (∀ n, i < n → n ≤ i + m → (∀ k, i < k → k < n → I 13 k (z_px mv k) = 0) → B n (z_px mv n) = true) →
    (z_db mv m I B i = I ∧ ∀ n, i < n → n ≤ i + m → (∀ k, i < k → k ≤ n → I 13 k (z_px mv k) = 0) → ¬ z_bd I n (z_px mv n)) ∨
    (∃ d, i < d ∧ d ≤ i + m ∧ z_db mv m I B i = z_sI I 13 d (z_px mv d) 1 ∧ (∀ k, i < k → k ≤ d → I 13 k (z_px mv k) = 0) ∧ z_bd I d (z_px mv d) ∧ ∀ n, i < n → n < d → ¬ z_bd I n (z_px mv n))
  | 0, i, _ => Or.inl ⟨rfl, fun n a b _ => by omega⟩
  | m + 1, i, hB => by
    rw [z_db]
    have hB1 := hB (i + 1) (by omega) (by omega) (fun k a b => by omega)
    by_cases h13 : I 13 (i + 1) (z_px mv (i + 1)) = 0
    · rw [if_pos ⟨hB1, h13⟩]
      by_cases hb : bad (I 11 (i + 1) (z_px mv (i + 1))) (I 12 (i + 1) (z_px mv (i + 1))) (if i % 2 = 0 then 1 else 0)
      · rw [if_pos hb]
        exact Or.inr ⟨i + 1, by omega, by omega, rfl, fun k a b => by (have : k = i + 1 := by omega); subst this; exact h13, z_bd_i.1 hb, fun n a b => by omega⟩
      · rw [if_neg hb]
        have hlow : ∀ (d : Nat), (∀ k, i + 1 < k → k ≤ d → I 13 k (z_px mv k) = 0) → ∀ k, i < k → k ≤ d → I 13 k (z_px mv k) = 0 := fun d h k a b => by
          by_cases q : k = i + 1
          · rw [q]; exact h13
          · exact h k (by omega) b
        rcases z_db_s m (i + 1) (fun n a b c => hB n (by omega) (by omega) (fun k x y => by
          by_cases q : k = i + 1
          · rw [q]; exact h13
          · exact c k (by omega) y)) with ⟨h1, h2⟩ | ⟨d, h1, h2, h3, h4, h5, h6⟩
        · refine Or.inl ⟨h1, fun n a b c => ?_⟩
          by_cases q : n = i + 1
          · rw [q]; exact fun z => hb (z_bd_i.2 z)
          · exact h2 n (by omega) (by omega) (fun k x y => c k (by omega) y)
        · refine Or.inr ⟨d, by omega, by omega, h3, hlow d h4, h5, fun n a b => ?_⟩
          by_cases q : n = i + 1
          · rw [q]; exact fun z => hb (z_bd_i.2 z)
          · exact h6 n (by omega) b
    · rw [if_neg (fun z => h13 z.2)]
      exact Or.inl ⟨rfl, fun n a b c => absurd (c (i + 1) (by omega) (by omega)) h13⟩
end BK
/-- the lines of both books, their results counted -/
def z_Jl (I : z_TI) (M : z_TM) (bd : Nat → Nat) : Prop := ∀ n l, 1 ≤ n → n ≤ 6 → l < 4 ^ n → M 16 (z_sh n + l) = I 11 n l ∧ M 17 (z_sh n + l) = I 12 n l ∧ M 18 (z_sh n + l) = I 13 n l ∧ (I 13 n l = 0 ∨ I 13 n l = 1) ∧ ∃ c s, I 11 n l = nI c ∧ I 12 n l = nI s ∧ c ≤ bd n ∧ s ≤ 2 * c
theorem z_sh_i : ∀ {n l n' l' : Nat}, 1 ≤ n → n ≤ 6 → l < 4 ^ n → 1 ≤ n' → n' ≤ 6 → l' < 4 ^ n' → z_sh n + l = z_sh n' + l' → n = n' ∧ l = l' := by
  intro n l n' l' h1 h6 hl h1' h6' hl' h
  have key : ∀ a, a < 7 → ∀ b, b < 7 → 1 ≤ a → a < b → z_sh a + 4 ^ a ≤ z_sh b := by decide +kernel
  by_cases q : n = n'
  · subst q
    exact ⟨rfl, by omega⟩
  · by_cases q2 : n < n'
    · have := key n (by omega) n' (by omega) h1 q2; omega
    · have := key n' (by omega) n (by omega) h1' (by omega); omega

