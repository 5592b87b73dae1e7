/-! the asks' answers of both sides -/
theorem z_J.gone {I : z_TI} {N : z_TN} {O : z_TO} {B : z_TB} {M : z_TM} (h : z_J I N O B M) {l : Nat} : ∀ n, n ≤ 6 → (z_gn M l n ↔ z_hd I B l n = true)
  | 0, _ => ⟨fun ⟨k, a, b, _⟩ => by omega, fun q => by cases q⟩
  | n + 1, hn => by
    have hp : l % 4 ^ (n + 1) < 4 ^ (n + 1) := Nat.mod_lt _ (Nat.pow_pos (by omega))
    have h18 := (h.2.2.2.2.2.1 (n + 1) (l % 4 ^ (n + 1)) (by omega) hn hp).2.2.1
    rw [z_gn_s, z_J.gone h n (by omega), h18, z_hd, Bool.or_eq_true, Bool.and_eq_true, decide_eq_true_eq]
    refine or_congr Iff.rfl ⟨fun q => ⟨?_, q⟩, fun q => q.2⟩
    cases hB : B (n + 1) (l % 4 ^ (n + 1)) with
    | true => rfl
    | false => exact absurd (h.2.1 _ _ hB).2.2 q

