/-! what the law asks of the state besides: ratings, puzzles, scores, lines -/
def z_ss (S : Nat → Int32) : Nat → Int32
  | 0 => 0
  | k + 1 => z_ss S k + S k
theorem z_ss_c {S S' : Nat → Int32} : ∀ n, (∀ p, p < n → S' p = S p) → z_ss S' n = z_ss S n
  | 0, _ => rfl
  | n + 1, h => by
    rw [z_ss, z_ss, z_ss_c n (fun p hp => h p (by omega)), h n (by omega)]
theorem z_ss_u {S S' : Nat → Int32} {a : Nat} {v : Int32} (ha : S' a = S a + v) (ho : ∀ p, p ≠ a → S' p = S p) : ∀ n, a < n → z_ss S' n = z_ss S n + v
  | 0, h => absurd h (Nat.not_lt_zero _)
  | n + 1, h => by
    rw [z_ss, z_ss]
    by_cases q : a = n
    · rw [← q, z_ss_c a (fun p hp => ho p (by omega)), ha, Int32.add_assoc]
    · rw [z_ss_u ha ho n (by omega), ho n (fun e => q e.symm), z_arc]
def z_kR (I : z_TI) (N : z_TN) : Prop := ∀ p, p < N 0 0 → ∀ t, t < 5 → ∃ a, I 3 p t = nI a ∧ 100 ≤ a ∧ a ≤ 3000
def z_al (I : z_TI) (n l : Nat) : Prop := ∀ k, 1 ≤ k → k ≤ n → I 13 k (l % 4 ^ k) = 0
def z_kL (I : z_TI) (N : z_TN) (O : z_TO) : Prop := ∀ n l, 1 ≤ n → n ≤ 6 → l < 4 ^ n →
  (z_al I n l → I 12 n l = z_pg I N O l n 60) ∧ (∃ s t, I 12 n l = nI s ∧ z_pg I N O l n 60 = nI t ∧ s ≤ t ∧ t ≤ 2 * z_ed N O) ∧
  (n < 6 → ∃ c0 c1 c2 c3 c4, I 11 n l = nI c0 ∧ I 11 (n + 1) (l + 0 * 4 ^ n) = nI c1 ∧ I 11 (n + 1) (l + 1 * 4 ^ n) = nI c2 ∧ I 11 (n + 1) (l + 2 * 4 ^ n) = nI c3 ∧ I 11 (n + 1) (l + 3 * 4 ^ n) = nI c4 ∧ c1 + c2 + c3 + c4 ≤ c0 ∧ c0 ≤ z_ed N O)
def z_K (I : z_TI) (N : z_TN) (O : z_TO) : Prop := z_kR I N ∧ z_kZ I N (z_ed N O) ∧ z_ss (fun p => I 2 p 0) (N 0 0) = nI (2 * z_ed N O) ∧ z_kL I N O
section KI
variable {I I' : z_TI} {N N' : z_TN} {O O' : z_TO} {B : z_TB} {M : z_TM}
theorem z_pg_c {l n : Nat} : ∀ k, (∀ g, g < k → (g < N' 7 0 ∧ O' 0 0 ≠ some g ↔ g < N 7 0 ∧ O 0 0 ≠ some g) ∧ (g < N 7 0 ∧ O 0 0 ≠ some g → N' 5 g = N 5 g ∧ I' 8 g = I 8 g ∧ I' 7 g 0 = I 7 g 0)) → z_pg I' N' O' l n k = z_pg I N O l n k
  | 0, _ => rfl
  | k + 1, h => by
    rw [z_pg, z_pg, z_pg_c k (fun g hg => h g (by omega))]
    obtain ⟨h1, h2⟩ := h k (by omega)
    by_cases q : k < N 7 0 ∧ O 0 0 ≠ some k
    · obtain ⟨e5, e8, e7⟩ := h2 q
      rw [e5, e8, e7]
      have q' := h1.2 q
      by_cases c : n ≤ N 5 k ∧ ∀ i, i < n → I 8 k i = nI (l / 4 ^ i % 4)
      · rw [if_pos ⟨q'.1, q'.2, c⟩, if_pos ⟨q.1, q.2, c⟩]
      · rw [if_neg (fun z => c z.2.2), if_neg (fun z => c z.2.2)]
    · have q' : ¬ (k < N' 7 0 ∧ O' 0 0 ≠ some k) := fun z => q (h1.1 z)
      rw [if_neg (fun z => q' ⟨z.1, z.2.1⟩), if_neg (fun z => q ⟨z.1, z.2.1⟩)]
theorem z_kL.c (h : z_kL I N O) (hI : ∀ f, 10 < f → f < 14 → I' f = I f) (hp : ∀ l n, z_pg I' N' O' l n 60 = z_pg I N O l n 60) (he : z_ed N O ≤ z_ed N' O') : z_kL I' N' O' := by
  intro n l h1 h6 hl
  obtain ⟨a, ⟨s, t, b1, b2, b3, b4⟩, c⟩ := h n l h1 h6 hl
  unfold z_al at a ⊢
  rw [hI 11 (by decide) (by decide), hI 12 (by decide) (by decide), hI 13 (by decide) (by decide), hp]
  refine ⟨a, ⟨s, t, b1, b2, b3, by omega⟩, fun h66 => ?_⟩
  obtain ⟨c0, c1, c2, c3, c4, d0, d1, d2, d3, d4, d5, d6⟩ := c h66
  exact ⟨c0, c1, c2, c3, c4, d0, d1, d2, d3, d4, d5, by omega⟩
theorem z_K.c (h : z_K I N O) (hS : z_S N O B) (hI : ∀ f, f ≠ 4 → f ≠ 5 → f ≠ 0 → f ≠ 1 → f ≠ 3 → f ≠ 6 → f ≠ 8 → I' f = I f) (h3 : z_kR I' N') (hn0 : N' 0 = N 0) (hn2 : N' 2 = N 2) (he : z_ed N' O' = z_ed N O) (hp : ∀ l n, z_pg I' N' O' l n 60 = z_pg I N O l n 60) : z_K I' N' O' := by
  obtain ⟨a, b, c, d⟩ := h
  refine ⟨h3, b.c (hI 9 (by decide) (by decide) (by decide) (by decide) (by decide) (by decide) (by decide)) (hI 10 (by decide) (by decide) (by decide) (by decide) (by decide) (by decide) (by decide)) hn2 (Nat.le_of_eq he.symm), ?_, d.c (fun f x y => hI f (by omega) (by omega) (by omega) (by omega) (by omega) (by omega) (by omega)) hp (Nat.le_of_eq he.symm)⟩
  rw [hI 2 (by decide) (by decide) (by decide) (by decide) (by decide) (by decide) (by decide), hn0, he]
  exact c
theorem z_K.enter (h : z_K I N O) (hS : z_S N O B) : z_K (z_IP I (N 0 0)) (z_NP N) (z_sO O 1 (N 0 0) none) := by
  obtain ⟨a, b, c, d⟩ := h
  have e0 : z_NP N 0 0 = N 0 0 + 1 := by simp [z_NP, z_sN]
  have eo : ∀ f, f ≠ 0 → f ≠ 6 → z_NP N f = N f := fun f a b => by
    unfold z_NP; rw [z_sN_f _ _ _ a, z_sN_f _ _ _ b]
  have eO : z_sO O 1 (N 0 0) none 0 0 = O 0 0 := by rw [z_sO_f _ _ _ (by decide)]
  have hed : z_ed (z_NP N) (z_sO O 1 (N 0 0) none) = z_ed N O := z_ed_c (eo 1 (by decide) (by decide)) eO
  refine ⟨fun p hp t ht => ?_, b.c (z_IP_f I _ (by decide)) (z_IP_f I _ (by decide)) (eo 2 (by decide) (by decide)) (Nat.le_of_eq hed.symm), ?_, d.c (fun f x y => z_IP_f I _ (by omega)) (fun l n => z_pg_c 60 (fun g hg => ?_)) (Nat.le_of_eq hed.symm)⟩
  · rw [e0] at hp
    by_cases q : p = N 0 0
    · rw [q]
      refine ⟨1000, ?_, by omega, by omega⟩
      simp [z_IP, z_sF, z_r0, ht]
      rfl
    · rw [z_IP_i q]
      exact a p (by omega) t ht
  · rw [hed, e0, ← c, z_ss, z_ss_c (S := fun p => I 2 p 0) (N 0 0) (fun p hp => by show z_IP I (N 0 0) 2 p 0 = I 2 p 0; rw [z_IP_i (by omega)])]
    have : z_IP I (N 0 0) 2 (N 0 0) 0 = 0 := by simp [z_IP, z_sF]
    rw [this, Int32.add_zero]
  · rw [eO, eo 7 (by decide) (by decide), eo 5 (by decide) (by decide), z_IP_f I _ (by decide), z_IP_f I _ (by decide)]
    exact ⟨Iff.rfl, fun _ => ⟨rfl, rfl, rfl⟩⟩
theorem z_K.begin (h : z_K I N O) (hS : z_S N O B) (ho : O 0 0 = none) {p1 p2 : Nat} : z_K (z_IG I (N 1 0)) (z_NB N p1 p2) (z_sO O 0 0 (some (N 1 0))) := by
  have e1 : z_NB N p1 p2 1 0 = N 1 0 + 1 := by simp [z_NB, z_NG, z_sN]
  have e7 : z_NB N p1 p2 7 0 = N 1 0 + 1 := by simp [z_NB, z_NG, z_sN]
  have eo : ∀ f, f ≠ 1 → f ≠ 3 → f ≠ 4 → f ≠ 5 → f ≠ 7 → z_NB N p1 p2 f = N f := fun f a b c d e => z_NB_o a b c d e
  have eed : z_ed (z_NB N p1 p2) (z_sO O 0 0 (some (N 1 0))) = z_ed N O := by
    unfold z_ed
    rw [z_sO_s, ho, e1]
    rfl
  have e0 := eo 0 (by decide) (by decide) (by decide) (by decide) (by decide)
  have hlt := z_ed_le (N := N) (O := O)
  refine ⟨fun p hp t ht => ?_, h.2.1.c (z_IG_f I _ (by decide)) (z_IG_f I _ (by decide)) (eo 2 (by decide) (by decide) (by decide) (by decide) (by decide)) (Nat.le_of_eq eed.symm), ?_, h.2.2.2.c (fun f x y => z_IG_f I _ (by omega)) (fun l n => z_pg_c 60 (fun g hg => ?_)) (Nat.le_of_eq eed.symm)⟩
  · rw [e0] at hp
    rw [z_IG_f I _ (by decide)]
    exact h.1 p hp t ht
  · rw [eed, e0, z_IG_f I _ (by decide)]
    exact h.2.2.1
  · rw [z_sO_s, ho, e7, hS.2.1]
    have hne : some (N 1 0) ≠ some g ↔ g ≠ N 1 0 := ⟨fun a b => a (by rw [b]), fun a b => a (Option.some.inj b).symm⟩
    rw [hne]
    refine ⟨⟨fun z => ⟨by omega, fun z => nomatch z⟩, fun z => ⟨by omega, by omega⟩⟩, fun z => ?_⟩
    have q : g ≠ N 1 0 := by omega
    rw [z_NB_g (by decide) (by decide) q, z_IG_i q, z_IG_i q]
    exact ⟨rfl, rfl, rfl⟩
theorem z_K.move (h : z_K I N O) (hS : z_S N O B) {g : Nat} (ho : O 0 0 = some g) {x y : Int32} {c : Nat} : z_K (z_sI (z_sI I 8 g c x) 6 g 0 y) (z_sN N 5 g (N 5 g + 1)) O := by
  have eo : ∀ f, f ≠ 5 → z_sN N 5 g (N 5 g + 1) f = N f := fun f a => z_sN_f _ _ _ a
  have eI : ∀ f, f ≠ 6 → f ≠ 8 → z_sI (z_sI I 8 g c x) 6 g 0 y f = I f := fun f a b => by rw [z_sI_f _ _ _ _ a, z_sI_f _ _ _ _ b]
  refine h.c hS (fun f _ _ _ _ _ a b => eI f a b) (fun p hp t ht => ?_) (eo 0 (by decide)) (eo 2 (by decide)) (z_ed_c (eo 1 (by decide)) rfl) (fun l n => z_pg_c 60 (fun g' hg => ?_))
  · rw [eo 0 (by decide)] at hp
    rw [eI 3 (by decide) (by decide)]
    exact h.1 p hp t ht
  · rw [eo 7 (by decide)]
    refine ⟨Iff.rfl, fun z => ?_⟩
    have q : g' ≠ g := fun e => z.2 (by rw [ho, e])
    rw [z_sN_i _ _ _ q, eI 7 (by decide) (by decide), z_sI_f _ _ _ _ (by decide), z_sI_i _ _ _ _ q]
    exact ⟨rfl, rfl, rfl⟩
def lnow (r s : Int32) : Int32 := if s = 0 then r - 16 else r + 32 - (if (1000 : Int32) < r then (r - 1000) / 50 else 0)
theorem z_rb_l : ∀ a, a < 29 → ∀ b, b < 101 → ∀ s, s < 2 → rb (nI (100 + 100 * a + b)) (nI s) = (if lnow (nI (100 + 100 * a + b)) (nI s) < 100 then 100 else lnow (nI (100 + 100 * a + b)) (nI s)) ∧ 100 ≤ (rb (nI (100 + 100 * a + b)) (nI s)).toInt ∧ (rb (nI (100 + 100 * a + b)) (nI s)).toInt ≤ 3000 := by decide +kernel
theorem z_rb_k {a : Nat} {s : Int32} (h1 : 100 ≤ a) (h2 : a ≤ 3000) (hs : s = 0 ∨ s = 1) : rb (nI a) s = (if lnow (nI a) s < 100 then 100 else lnow (nI a) s) ∧ ∃ b, rb (nI a) s = nI b ∧ 100 ≤ b ∧ b ≤ 3000 := by
  have key : ∀ k, k < 2 → s = nI k → rb (nI a) s = (if lnow (nI a) s < 100 then 100 else lnow (nI a) s) ∧ ∃ b, rb (nI a) s = nI b ∧ 100 ≤ b ∧ b ≤ 3000 := by
    rintro k hk rfl
    have e : ∃ u v, u < 29 ∧ v < 101 ∧ 100 + 100 * u + v = a := by
      by_cases q : a = 3000
      · exact ⟨28, 100, by omega, by omega, by omega⟩
      · exact ⟨(a - 100) / 100, (a - 100) % 100, by omega, by omega, by omega⟩
    obtain ⟨u, v, hu, hv, rfl⟩ := e
    obtain ⟨h3, h4, h5⟩ := z_rb_l u hu v hv k hk
    refine ⟨h3, (rb (nI (100 + 100 * u + v)) (nI k)).toInt.toNat, Int32.toInt_inj.mp ?_, by omega, by omega⟩
    rw [nI_toInt (by omega)]
    omega
  rcases hs with rfl | rfl
  · exact key 0 (by decide) rfl
  · exact key 1 (by decide) rfl
theorem z_K.solve (h : z_K I N O) (hS : z_S N O B) {p z t : Nat} (hp : p < N 0 0) (ht : t < 5) {s : Int32} (hs : s = 0 ∨ s = 1) : z_K (z_sI (z_sI I 4 p z 1) 3 p t (rb (I 3 p t) s)) N O := by
  have eI : ∀ f, f ≠ 3 → f ≠ 4 → z_sI (z_sI I 4 p z 1) 3 p t (rb (I 3 p t) s) f = I f := fun f a b => by rw [z_sI_f _ _ _ _ a, z_sI_f _ _ _ _ b]
  refine h.c hS (fun f a _ _ _ b _ _ => eI f b a) (fun p' hp' t' ht' => ?_) rfl rfl rfl (fun l n => z_pg_c 60 (fun g' hg => ?_))
  · by_cases q : p' = p ∧ t' = t
    · rw [q.1, q.2, z_sI_s]
      obtain ⟨a, ha, h1, h2⟩ := h.1 p hp t ht
      rw [ha]
      exact (z_rb_k h1 h2 hs).2
    · rw [z_sI_ne _ _ (fun z => q z.2), z_sI_f _ _ _ _ (by decide)]
      exact h.1 p' hp' t' ht'
  · rw [eI 7 (by decide) (by decide), eI 8 (by decide) (by decide)]
    exact ⟨Iff.rfl, fun _ => ⟨rfl, rfl, rfl⟩⟩
end KI

