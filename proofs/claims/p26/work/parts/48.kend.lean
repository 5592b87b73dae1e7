/-! .. and an end keeps it -/
theorem z_px_d {mv : Nat → Nat} {l : Nat} : ∀ n, (∀ i, i < n → l / 4 ^ i % 4 = mv i) → l % 4 ^ n = z_px mv n
  | 0, _ => Nat.mod_one _
  | n + 1, h => by
    have h1 := z_pre l n
    rw [z_px_d n (fun i hi => h i (by omega)), h n (by omega)] at h1
    exact h1.symm
theorem z_px_e {mv : Nat → Nat} {n : Nat} (h : ∀ i, i < n → mv i < 4) {i : Nat} (hi : i < n) : z_px mv n / 4 ^ i % 4 = mv i := by
  have h1 := z_pre (z_px mv n) i
  rw [z_px_le h n (by omega) (Nat.le_refl _), z_px_le h n hi (Nat.le_refl _)] at h1
  have h2 : z_px mv (i + 1) = z_px mv i + mv i * 4 ^ i := rfl
  rw [h2] at h1
  exact Nat.eq_of_mul_eq_mul_right (Nat.pow_pos (by omega)) (Nat.add_left_cancel h1)
section KE
variable {I : z_TI} {N : z_TN} {O : z_TO} {B : z_TB} {M : z_TM}
theorem z_pg_e {I' : z_TI} {O' : z_TO} {g : Nat} {x : Int32} (ho : O 0 0 = some g) (ho' : O' 0 0 = none) (h7 : N 7 0 = g + 1) (e8 : I' 8 = I 8) (e7 : ∀ i, I' 7 i 0 = if i = g then x else I 7 i 0) {l n : Nat} [Decidable (n ≤ N 5 g ∧ ∀ i, i < n → I 8 g i = nI (l / 4 ^ i % 4))] : ∀ k, (k ≤ g → z_pg I' N O' l n k = z_pg I N O l n k) ∧ (g < k → z_pg I' N O' l n k = z_pg I N O l n k + (if n ≤ N 5 g ∧ ∀ i, i < n → I 8 g i = nI (l / 4 ^ i % 4) then x else 0))
  | 0 => ⟨fun _ => rfl, fun h => absurd h (Nat.not_lt_zero _)⟩
  | k + 1 => by
    have ih := z_pg_e ho ho' h7 e8 e7 (l := l) (n := n) k
    rw [z_pg, z_pg, ho, ho', h7, e8, e7]
    by_cases q : k = g
    · subst q
      refine ⟨fun h => by omega, fun _ => ?_⟩
      rw [if_pos rfl, ih.1 (Nat.le_refl _), if_neg (fun z : k < k + 1 ∧ some k ≠ some k ∧ _ => z.2.1 rfl)]
      by_cases c : n ≤ N 5 k ∧ ∀ i, i < n → I 8 k i = nI (l / 4 ^ i % 4)
      · rw [if_pos ⟨by omega, (fun z => nomatch z), c⟩, if_pos c]
      · rw [if_neg (fun z => c z.2.2), if_neg c, Int32.add_zero]
    · rw [if_neg q]
      have hs : some g ≠ some k := fun z => q (Option.some.inj z).symm
      by_cases c : k < g + 1 ∧ n ≤ N 5 k ∧ ∀ i, i < n → I 8 k i = nI (l / 4 ^ i % 4)
      · rw [if_pos ⟨c.1, (fun z => nomatch z), c.2⟩, if_pos ⟨c.1, hs, c.2⟩]
        exact ⟨fun h => by rw [ih.1 (by omega)], fun h => absurd c.1 (by omega)⟩
      · rw [if_neg (fun z => c ⟨z.1, z.2.2⟩), if_neg (fun z => c ⟨z.1, z.2.2⟩)]
        exact ⟨fun h => ih.1 (by omega), fun h => ih.2 (by omega)⟩
theorem z_K.endB (hJ : z_J I N O B M) (h : z_K I N O) {g : Nat} (ho : O 0 0 = some g) {x : Int32} (hx : z_rg x 3) : z_kL (z_kI (z_e2 I N g x) N B g) N (z_sO O 0 0 none) := by
  obtain ⟨M', -, hf, h13⟩ := hJ.endB ho hx
  have hS := hJ.1
  have hg1 : g + 1 = N 1 0 := hS.2.2.2.2.2.2.2.1 g ho
  have h12 := (hS.2.2.2.2.2.2.1 g (by omega)).2.2
  have e8 : z_e2 I N g x 8 = I 8 := z_e2_f (by decide) (by decide) (by decide) (by decide) (by decide)
  have e11 : z_e2 I N g x 11 = I 11 := z_e2_f (by decide) (by decide) (by decide) (by decide) (by decide)
  have e12 : z_e2 I N g x 12 = I 12 := z_e2_f (by decide) (by decide) (by decide) (by decide) (by decide)
  have e13 : z_e2 I N g x 13 = I 13 := z_e2_f (by decide) (by decide) (by decide) (by decide) (by decide)
  have hmv : ∀ i, i < N 5 g → I 8 g i = nI (z_mv (z_e2 I N g x) g i) ∧ z_mv (z_e2 I N g x) g i < 4 := fun i hi => by
    have h9 := ((hJ.2.2.2.1.2.2.2.1 g (by omega)).2.2.2.2.2.2 i hi).2
    rw [← e8] at h9 ⊢
    exact z_rg_mv h9
  have hmv4 : ∀ n, n ≤ N 5 g → ∀ i, i < n → z_mv (z_e2 I N g x) g i < 4 := fun n hn i hi => (hmv i (by omega)).2
  have hkn : ∀ n, n ≤ 6 → (n ≤ z_kn N g ↔ n ≤ N 5 g) := fun n hn => by
    unfold z_kn
    split <;> omega
  have hdel : ∀ n l, n ≤ 6 → l < 4 ^ n → ((n ≤ N 5 g ∧ ∀ i, i < n → I 8 g i = nI (l / 4 ^ i % 4)) ↔ (n ≤ z_kn N g ∧ l = z_px (z_mv (z_e2 I N g x) g) n)) := fun n l hn hl => by
    rw [hkn n hn]
    refine and_congr_right (fun h5 => ⟨fun hh => ?_, fun hh i hi => ?_⟩)
    · rw [← z_px_d (l := l) n (fun i hi => ?_), Nat.mod_eq_of_lt hl]
      have h1 := hh i hi
      rw [(hmv i (by omega)).1] at h1
      have := (hmv i (by omega)).2
      exact (nI_inj (by omega) (by omega) h1).symm
    · rw [(hmv i (by omega)).1, hh, z_px_e (hmv4 n h5) hi]
  have hal : ∀ n l, n ≤ N 5 g → l = z_px (z_mv (z_e2 I N g x) g) n → (z_al I n l ↔ ∀ k, 1 ≤ k → k ≤ n → z_e2 I N g x 13 k (z_px (z_mv (z_e2 I N g x) g) k) = 0) := fun n l hn hl => by
    rw [e13]
    unfold z_al
    have : ∀ k, k ≤ n → l % 4 ^ k = z_px (z_mv (z_e2 I N g x) g) k := fun k hk => by rw [hl, z_px_le (hmv4 n hn) n hk (Nat.le_refl _)]
    exact ⟨fun z k a b => by rw [← this k b]; exact z k a b, fun z k a b => by rw [this k b]; exact z k a b⟩
  have hon : ∀ n l, n ≤ 6 → (z_on (z_mv (z_e2 I N g x) g) (z_kn N g) (z_e2 I N g x) n l ↔ (n ≤ z_kn N g ∧ l = z_px (z_mv (z_e2 I N g x) g) n) ∧ z_al I n l) := fun n l hn => by
    unfold z_on
    rw [← and_assoc]
    exact and_congr_right (fun z => (hal n l ((hkn n hn).1 z.1) z.2).symm)
  obtain ⟨rr, hrr, ex⟩ := hx
  have hed0 : z_ed N O = g := by unfold z_ed; rw [ho]; dsimp only; omega
  have hed1 : z_ed N (z_sO O 0 0 none) = g + 1 := by unfold z_ed; rw [z_sO_s]; exact hg1.symm
  intro n l h1 h6 hl
  have hv : ∀ n l, 1 ≤ n → _ := fun n l h1 => z_ar_w (mv := z_mv (z_e2 I N g x) g) (r := x) (kn := z_kn N g) (I := z_e2 I N g x) (B := B) (n := n) (l := l) h1
  have hpg : z_pg (z_kI (z_e2 I N g x) N B g) N (z_sO O 0 0 none) l n 60 = z_pg I N O l n 60 + @ite _ (n ≤ z_kn N g ∧ l = z_px (z_mv (z_e2 I N g x) g) n) (Classical.propDecidable _) x 0 := by
    have hN60 := hS.2.2.2.2.1
    have e := (z_pg_e (I := I) (N := N) (O := O) (I' := z_kI (z_e2 I N g x) N B g) (O' := z_sO O 0 0 none) (g := g) (x := x) (l := l) (n := n) ho (z_sO_s _ _ _ _) (by rw [hS.2.1]; exact hg1.symm) (by rw [hf 8 (by decide), z_arf (by decide) (by decide), e8]) (fun i => by rw [hf 7 (by decide), z_arf (by decide) (by decide), z_e2_7]) 60).2 (by omega)
    rw [e]
    congr 1
    by_cases c : n ≤ z_kn N g ∧ l = z_px (z_mv (z_e2 I N g x) g) n
    · rw [if_pos c, if_pos ((hdel n l h6 hl).2 c)]
    · rw [if_neg c, if_neg (fun z => c ((hdel n l h6 hl).1 z))]
  have halK : z_al (z_kI (z_e2 I N g x) N B g) n l → z_al I n l := fun z k a b => h13 k _ a (by omega) (Nat.mod_lt _ (Nat.pow_pos (by omega))) (z k a b)
  obtain ⟨a, ⟨s, t, b1, b2, b3, b4⟩, c⟩ := h.2.2.2 n l h1 h6 hl
  rw [hpg, hf 11 (by decide), hf 12 (by decide), hed1]
  rw [hed0] at b4
  refine ⟨fun z => ?_, ?_, fun h66 => ?_⟩
  · have al := halK z
    rcases hv n l h1 with ⟨q, v1, v2⟩ | ⟨q, v1, v2⟩
    · have q2 := (hon n l h6).1 q
      rw [v2, e12, if_pos q2.1, a al]
    · have q2 : ¬ (n ≤ z_kn N g ∧ l = z_px (z_mv (z_e2 I N g x) g) n) := fun y => q ((hon n l h6).2 ⟨y, al⟩)
      rw [v2, e12, if_neg q2, a al, Int32.add_zero]
  · rcases hv n l h1 with ⟨q, v1, v2⟩ | ⟨q, v1, v2⟩
    · have q2 := (hon n l h6).1 q
      rw [v2, e12, if_pos q2.1, b1, b2, ex]
      exact ⟨s + rr, t + rr, nI_add _ _, nI_add _ _, by omega, by omega⟩
    · rw [v2, e12, b1, b2]
      by_cases y : n ≤ z_kn N g ∧ l = z_px (z_mv (z_e2 I N g x) g) n
      · rw [if_pos y, ex]
        exact ⟨s, t + rr, rfl, nI_add _ _, by omega, by omega⟩
      · rw [if_neg y, Int32.add_zero]
        exact ⟨s, t, rfl, rfl, b3, by omega⟩
  · obtain ⟨c0, c1, c2, c3, c4, d0, d1, d2, d3, d4, d5, d6⟩ := c h66
    rw [hed0] at d6
    have h4 : 0 < 4 ^ n := Nat.pow_pos (by omega)
    have hup : ∀ m, z_on (z_mv (z_e2 I N g x) g) (z_kn N g) (z_e2 I N g x) (n + 1) (l + m * 4 ^ n) → z_on (z_mv (z_e2 I N g x) g) (z_kn N g) (z_e2 I N g x) n l := fun m q => by
      have q1 := q.1
      have hm5 := (hkn (n + 1) (by omega)).1 q1
      refine ⟨by omega, ?_, fun k a b => q.2.2 k a (by omega)⟩
      have e := z_px_mod (hmv4 (n + 1) hm5) (i := n) (by omega)
      rw [← q.2.1, Nat.add_mul_mod_self_right, Nat.mod_eq_of_lt hl] at e
      exact e
    have hv' : ∀ m cm, I 11 (n + 1) (l + m * 4 ^ n) = nI cm → ∃ cm', (z_ar (z_mv (z_e2 I N g x) g) x (z_kn N g) (z_e2 I N g x) B 0).1 11 (n + 1) (l + m * 4 ^ n) = nI cm' ∧ ((z_on (z_mv (z_e2 I N g x) g) (z_kn N g) (z_e2 I N g x) n l ∧ l + m * 4 ^ n = z_px (z_mv (z_e2 I N g x) g) (n + 1) ∧ cm' = cm + 1) ∨ cm' = cm) := fun m cm hcm => by
      rcases hv (n + 1) (l + m * 4 ^ n) (by omega) with ⟨q, v1, v2⟩ | ⟨q, v1, v2⟩
      · exact ⟨cm + 1, by rw [v1, e11, hcm, nI_1], Or.inl ⟨hup m q, q.2.1, rfl⟩⟩
      · exact ⟨cm, by rw [v1, e11, hcm], Or.inr rfl⟩
    obtain ⟨k1, f1, g1⟩ := hv' 0 c1 d1
    obtain ⟨k2, f2, g2⟩ := hv' 1 c2 d2
    obtain ⟨k3, f3, g3⟩ := hv' 2 c3 d3
    obtain ⟨k4, f4, g4⟩ := hv' 3 c4 d4
    rcases hv n l h1 with ⟨q, v1, v2⟩ | ⟨q, v1, v2⟩
    · refine ⟨c0 + 1, k1, k2, k3, k4, by rw [v1, e11, d0, nI_1], f1, f2, f3, f4, ?_, by omega⟩
      rcases g1 with ⟨-, g1, r1⟩ | r1 <;> rcases g2 with ⟨-, g2, r2⟩ | r2 <;> rcases g3 with ⟨-, g3, r3⟩ | r3 <;> rcases g4 with ⟨-, g4, r4⟩ | r4 <;> omega
    · refine ⟨c0, k1, k2, k3, k4, by rw [v1, e11, d0], f1, f2, f3, f4, ?_, by omega⟩
      have r1 := g1.resolve_left (fun z => q z.1)
      have r2 := g2.resolve_left (fun z => q z.1)
      have r3 := g3.resolve_left (fun z => q z.1)
      have r4 := g4.resolve_left (fun z => q z.1)
      omega
noncomputable def z_EI (I : z_TI) (N : z_TN) (B : z_TB) (g : Nat) (x : Int32) : z_TI × z_TN × Int32 := z_mk (nI (N 1 0) - 1) (I 8 g) (N 5 g) (z_kI (z_e2 I N g x) N B g) N 0 1 0
theorem z_endK (hJ : z_J I N O B M) (h : z_K I N O) {g : Nat} (ho : O 0 0 = some g) {x : Int32} (hx : z_rg x 3) : (∃ M', z_J (z_EI I N B g x).1 (z_EI I N B g x).2.1 (z_sO O 0 0 none) (z_k1 (z_e2 I N g x) N B g).2 M') ∧ z_K (z_EI I N B g x).1 (z_EI I N B g x).2.1 (z_sO O 0 0 none) ∧ (z_EI I N B g x).2.2 + nI (N 2 0) = nI ((z_EI I N B g x).2.1 2 0) ∧ N 2 0 ≤ (z_EI I N B g x).2.1 2 0 ∧ (z_EI I N B g x).2.1 2 0 ≤ N 2 0 + N 5 g ∧
    (∀ f, f ≠ 2 → f ≠ 8 → (z_EI I N B g x).2.1 f = N f) ∧ (∀ f, f ≠ 9 → f ≠ 10 → f ≠ 11 → f ≠ 12 → f ≠ 13 → (z_EI I N B g x).1 f = z_e2 I N g x f) ∧ (∀ n l, 1 ≤ n → n ≤ 6 → n ≤ N 5 g → l = z_px (fun i => (I 8 g i).toNatClampNeg) n → z_al I n l → (z_EI I N B g x).1 11 n l = I 11 n l + 1) := by
  have hS := hJ.1
  have hg1 : g + 1 = N 1 0 := hS.2.2.2.2.2.2.2.1 g ho
  have egm : nI (N 1 0) - 1 = nI g := by rw [← hg1, ← nI_1, Int32.add_sub_cancel]
  have hpq := hS.2.2.2.2.2.2.1 g (by omega)
  have hgn := hJ.2.2.2.1.2.2.2.1 g (by omega)
  have hne := hgn.2.2.1
  obtain ⟨M1, hJ1, hf, h13⟩ := hJ.endB ho hx
  have hmv : ∀ j, 0 ≤ j → j < 0 + N 5 g → z_rg (I 8 g j) 4 := fun j _ hj => (hgn.2.2.2.2.2.2 j (by omega)).2
  have hed0 : z_ed N O = g := by unfold z_ed; rw [ho]; dsimp only; omega
  have hed1 : z_ed N (z_sO O 0 0 none) = g + 1 := by unfold z_ed; rw [z_sO_s]; exact hg1.symm
  have hkf : ∀ f, f ≠ 11 → f ≠ 12 → f ≠ 13 → z_kI (z_e2 I N g x) N B g f = z_e2 I N g x f := fun f a b c => by rw [hf f c, z_arf a b]
  have h28 : ∀ f, f ≠ 2 → f ≠ 8 → (z_EI I N B g x).2.1 f = N f := (z_mk_f (N 5 g) _ N 0 1 0).2
  have h910 : ∀ f, f ≠ 9 → f ≠ 10 → (z_EI I N B g x).1 f = z_kI (z_e2 I N g x) N B g f := (z_mk_f (N 5 g) _ N 0 1 0).1
  have hed2 : z_ed (z_EI I N B g x).2.1 (z_sO O 0 0 none) = g + 1 := by
    rw [← hed1]
    exact z_ed_c (h28 1 (by decide) (by decide)) rfl
  have e2 : ∀ f, f ≠ 0 → f ≠ 1 → f ≠ 2 → f ≠ 5 → f ≠ 7 → z_e2 I N g x f = I f := fun f a b c d e => z_e2_f a b c d e
  have hz0 : z_kZ (z_kI (z_e2 I N g x) N B g) N (g + 1) := h.2.1.c (by rw [hkf 9 (by decide) (by decide) (by decide), e2 9 (by decide) (by decide) (by decide) (by decide) (by decide)]) (by rw [hkf 10 (by decide) (by decide) (by decide), e2 10 (by decide) (by decide) (by decide) (by decide) (by decide)]) rfl (by omega)
  have hzz := z_kZ.mk (g := g) (mv := I 8 g) (N 5 g) _ N 0 1 0 hS.2.2.1 hz0
  rw [← egm] at hzz
  have hx2 : z_rg (1 : Int32) 1000 := ⟨1, by decide, rfl⟩
  refine ⟨z_J.mk (N 5 g) _ _ M1 0 1 0 hJ1 hx2 hmv, ⟨fun p hp t ht => ?_, ?_, ?_, ?_⟩, ?_, hzz.2.2.1, hzz.2.2.2, h28, fun f a b c d e => (h910 f a b).trans (hkf f c d e), fun n l h1 h6 h5 hl al => ?_⟩
  · rw [h28 0 (by decide) (by decide)] at hp
    rw [h910 3 (by decide) (by decide), hkf 3 (by decide) (by decide) (by decide), e2 3 (by decide) (by decide) (by decide) (by decide) (by decide)]
    exact h.1 p hp t ht
  · rw [hed2]
    exact hzz.1
  · rw [hed2, h28 0 (by decide) (by decide), h910 2 (by decide) (by decide), hkf 2 (by decide) (by decide) (by decide)]
    have h0 := h.2.2.1
    rw [hed0] at h0
    have s1 := z_ss_u (S := fun p => I 2 p 0) (S' := fun p => if p = N 3 g then I 2 p 0 + x else I 2 p 0) (a := N 3 g) (v := x) (if_pos rfl) (fun p hp => if_neg hp) (N 0 0) hpq.1
    have s2 := z_ss_u (S := fun p => if p = N 3 g then I 2 p 0 + x else I 2 p 0) (S' := fun p => z_e2 I N g x 2 p 0) (a := N 4 g) (v := 2 - x) (by rw [z_e2_2 hne, if_neg (Ne.symm hne), if_pos rfl, if_neg (Ne.symm hne)]) (fun p hp => by
      rw [z_e2_2 hne]
      by_cases q : p = N 3 g
      · rw [if_pos q, if_pos q]
      · rw [if_neg q, if_neg q, if_neg hp]) (N 0 0) hpq.2.1
    rw [s2, s1, h0, Int32.add_assoc, Int32.add_comm x, Int32.sub_add_cancel, show (2 : Int32) = nI 2 from rfl, nI_add]
    rfl
  · refine (z_K.endB hJ h ho hx).c (fun f a b => h910 f (by omega) (by omega)) (fun l n => z_pg_c 60 (fun g' hg' => ?_)) (Nat.le_of_eq (hed1.trans hed2.symm))
    rw [h28 7 (by decide) (by decide), h28 5 (by decide) (by decide), h910 7 (by decide) (by decide), h910 8 (by decide) (by decide)]
    exact ⟨Iff.rfl, fun _ => ⟨rfl, rfl, rfl⟩⟩
  · have := hzz.2.1
    rw [Int32.zero_add] at this
    exact this
  · rw [h910 11 (by decide) (by decide), hf 11 (by decide)]
    have e13 := e2 13 (by decide) (by decide) (by decide) (by decide) (by decide)
    have e8 := e2 8 (by decide) (by decide) (by decide) (by decide) (by decide)
    have emv : z_mv (z_e2 I N g x) g = fun i => (I 8 g i).toNatClampNeg := by unfold z_mv; rw [e8]
    have hmv4 : ∀ i, i < n → (I 8 g i).toNatClampNeg < 4 := fun i hi => by
      obtain ⟨j, hj, ej⟩ := hmv i (Nat.zero_le _) (by omega)
      rw [ej, nI_clamp (by omega)]
      exact hj
    rcases z_ar_w (mv := z_mv (z_e2 I N g x) g) (r := x) (kn := z_kn N g) (I := z_e2 I N g x) (B := B) (n := n) (l := l) h1 with ⟨q, v1, v2⟩ | ⟨q, v1, v2⟩
    · rw [v1, e2 11 (by decide) (by decide) (by decide) (by decide) (by decide)]
    · refine absurd ⟨?_, ?_, fun k a b => ?_⟩ q
      · unfold z_kn; split <;> omega
      · rw [emv]; exact hl
      · rw [emv, e13, ← z_px_le hmv4 n b (Nat.le_refl _), ← hl]
        exact al k a b
end KE

