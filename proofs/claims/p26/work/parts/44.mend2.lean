/-! the reference's end -/
section EB
variable {I : z_TI} {N : z_TN} {O : z_TO} {B : z_TB} {M M' : z_TM}
/-- what the book's part of an end needs and gives -/
theorem z_J.book (h : z_J I N O B M) {g e rr : Nat} (hg : g < N 1 0) (hl0 : z_Jl I M (fun _ => e)) (he : e + 1 ≤ z_ed N O) (hr : I 7 g 0 = nI rr) :
    (∀ n l, 1 ≤ n → n ≤ 6 → l < 4 ^ n → (z_kI I N B g 13 n l ≠ 0 ↔ ((z_ar (z_mv I g) (nI rr) (z_kn N g) I B 0).1 13 n l ≠ 0 ∨ (z_bd (z_ar (z_mv I g) (nI rr) (z_kn N g) I B 0).1 n l ∧ ∀ k, 1 ≤ k → k < n → z_kI I N B g 13 k (l % 4 ^ k) = 0)))) ∧ (∀ n l, 1 ≤ n → n ≤ 6 → l < 4 ^ n → (z_kI I N B g 13 n l = 0 ∨ z_kI I N B g 13 n l = 1)) ∧ (∀ f, f ≠ 13 → z_kI I N B g f = (z_ar (z_mv I g) (nI rr) (z_kn N g) I B 0).1 f) ∧
    (∀ M', (∀ f, f ≠ 16 → f ≠ 17 → f ≠ 18 → M' f = M f) → z_Jl (z_kI I N B g) M' (fun _ => e + 1) → z_J (z_kI I N B g) N O (z_k1 I N B g).2 M') := by
  obtain ⟨hS, hZ, hP, hG, hZZ, hL, hB, hM⟩ := h
  have hgg := hG.2.2.2.1 g hg
  have h12 := (hS.2.2.2.2.2.2.1 g hg).2.2
  have hk6 : z_kn N g ≤ 6 := by unfold z_kn; split <;> omega
  have hk5 : z_kn N g ≤ N 5 g := by unfold z_kn; split <;> omega
  have hmv : ∀ i, i < z_kn N g → z_mv I g i < 4 := fun i hi => by
    obtain ⟨j, hj, ej⟩ := (hgg.2.2.2.2.2.2 i (by omega)).2
    unfold z_mv
    rw [ej, nI_clamp (by omega)]
    exact hj
  have e13 : (z_k1 I N B g).1 13 = I 13 := z_arf (by decide) (by decide) _ _ _ _
  have ek : z_k1 I N B g = z_ar (z_mv I g) (nI rr) (z_kn N g) I B 0 := by unfold z_k1; rw [hr]
  have key := z_db_h (mv := z_mv I g) (I1 := (z_k1 I N B g).1) (B1 := (z_k1 I N B g).2) (kn := z_kn N g) hk6 hmv
    (fun n a b c => z_ar_B _ _ _ _ _ a (by omega) (fun k x y => by have := c k x y; rw [e13] at this; exact this))
    (fun n l a b c => by rw [e13]; exact (hl0 n l a b c).2.2.2.1)
    (fun n l a b c al hp => by
      have ho := z_ar_o (mv := z_mv I g) (r := I 7 g 0) (z_kn N g) I B 0 n l (fun k x y z => hp ⟨by omega, by rw [z.2, z.1]⟩)
      rw [e13] at al
      have := hB n l a b c al
      unfold z_bd
      have o1 : (z_k1 I N B g).1 11 n l = I 11 n l := ho.1
      have o2 : (z_k1 I N B g).1 12 n l = I 12 n l := ho.2
      rw [o1, o2]
      exact this)
  refine ⟨by rw [← ek]; exact key.1, key.2.1, by rw [← ek]; exact key.2.2, fun M' hM' hl2 => ?_⟩
  have eI : ∀ f, f ≠ 11 → f ≠ 12 → f ≠ 13 → z_kI I N B g f = I f := fun f a b c => (key.2.2 f c).trans (z_arf a b _ _ _ _)
  have hSZ := z_ar_S (N := N) (O := O) (r := I 7 g 0) hmv hk6 (z_kn N g) I B 0 (by omega) hS hZ hS.2.2.2.2.2.2.2.2.2.1
  refine ⟨hSZ.1, z_db_Z _ _ hSZ.2, hP.c (fun f a => eI f (by omega) (by omega) (by omega)) rfl (fun f a => hM' f (by omega) (by omega) (by omega)), hG.c (fun f a b => eI f (by omega) (by omega) (by omega)) rfl rfl rfl rfl rfl (fun f a b => hM' f (by omega) (by omega) (by omega)), hZZ.c (eI 9 (by decide) (by decide) (by decide)) (eI 10 (by decide) (by decide) (by decide)) rfl (fun f a b => hM' f (by omega) (by omega) (by omega)), fun n l a b c => ?_, fun n l a b c al => ?_, hM.c (eI 5 (by decide) (by decide) (by decide)) rfl rfl rfl rfl⟩
  · obtain ⟨a1, a2, a3, a4, c', s, a5, a6, a7, a8⟩ := hl2 n l a b c
    exact ⟨a1, a2, a3, a4, c', s, a5, a6, Nat.le_trans a7 he, a8⟩
  · intro hb
    have hb2 : z_bd (z_k1 I N B g).1 n l := by
      unfold z_bd
      rw [← key.2.2 11 (by decide), ← key.2.2 12 (by decide)]
      exact hb
    have := (key.1 n l a b c).2 (Or.inr ⟨hb2, fun k x y => al k x (by omega)⟩)
    have h0 := al n a (Nat.le_refl _)
    rw [Nat.mod_eq_of_lt c] at h0
    exact this h0
end EB

