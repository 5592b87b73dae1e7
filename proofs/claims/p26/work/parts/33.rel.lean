/-! what the class's state and the reference's have to do with each other -/
def z_ed (N : z_TN) (O : z_TO) : Nat := match O 0 0 with | none => N 1 0 | some _ => N 1 0 - 1
def z_JP (I : z_TI) (N : z_TN) (M : z_TM) : Prop := M 0 0 = nI (N 0 0) ∧ (∀ p, p < N 0 0 → M 1 p = I 2 p 0 ∧ M 2 p = I 0 p 0 - I 1 p 0 ∧ (∀ t, t < 5 → M 3 (5 * p + t) = I 3 p t ∧ z_rg (I 3 p t) 3001) ∧ (∀ z, z < 40 → M 4 (40 * p + z) = I 4 p z)) ∧ (∀ p, N 0 0 ≤ p → M 1 p = 0 ∧ M 2 p = 0 ∧ ∀ z, z < 40 → M 4 (40 * p + z) = 0)
def z_JG (I : z_TI) (N : z_TN) (O : z_TO) (M : z_TM) : Prop := M 5 0 = nI (N 1 0) ∧ M 6 0 = (match O 0 0 with | none => 0 | some _ => 1) ∧ (∀ g, O 0 0 = some g → M 7 0 = I 6 g 0 ∧ z_rg (I 6 g 0) 1000) ∧ (∀ g, g < N 1 0 → M 8 g = nI (N 3 g) ∧ M 9 g = nI (N 4 g) ∧ N 3 g ≠ N 4 g ∧ M 10 g = nI (N 5 g) ∧ M 11 g = I 7 g 0 ∧ z_rg (I 7 g 0) 3 ∧ (∀ i, i < N 5 g → M 12 (12 * g + i) = I 8 g i ∧ z_rg (I 8 g i) 4)) ∧ (∀ g, N 1 0 ≤ g → M 10 g = 0 ∧ M 11 g = 0)
def z_JZ (I : z_TI) (N : z_TN) (M : z_TM) : Prop := M 13 0 = nI (N 2 0) ∧ ∀ z, z < N 2 0 → M 14 z = I 9 z 0 ∧ M 15 z = I 10 z 0 ∧ z_rg (I 9 z 0) 1000
def z_JL (I : z_TI) (N : z_TN) (O : z_TO) (M : z_TM) : Prop := ∀ n l, 1 ≤ n → n ≤ 6 → l < 4 ^ n → M 16 (z_sh n + l) = I 11 n l ∧ M 17 (z_sh n + l) = I 12 n l ∧ M 18 (z_sh n + l) = I 13 n l ∧ (I 13 n l = 0 ∨ I 13 n l = 1) ∧ ∃ c s, I 11 n l = nI c ∧ I 12 n l = nI s ∧ c ≤ z_ed N O ∧ s ≤ 2 * c
def z_JB (I : z_TI) : Prop := ∀ n l, 1 ≤ n → n ≤ 6 → l < 4 ^ n → (∀ k, 1 ≤ k → k ≤ n → I 13 k (l % 4 ^ k) = 0) → ¬ bad (I 11 n l) (I 12 n l) (if n % 2 = 1 then 1 else 0)
def z_JM (I : z_TI) (N : z_TN) (O : z_TO) : Prop := ∀ p q, p < N 0 0 → (I 5 p q = 0 ↔ ¬ ∃ g, g < z_ed N O ∧ ((N 3 g = p ∧ N 4 g = q) ∨ (N 3 g = q ∧ N 4 g = p)))
def z_J (I : z_TI) (N : z_TN) (O : z_TO) (B : z_TB) (M : z_TM) : Prop := z_S N O B ∧ z_Z I B ∧ z_JP I N M ∧ z_JG I N O M ∧ z_JZ I N M ∧ z_JL I N O M ∧ z_JB I ∧ z_JM I N O
section REL
variable {I I' : z_TI} {N N' : z_TN} {O O' : z_TO} {B : z_TB} {M M' : z_TM}
theorem z_JP.c (h : z_JP I N M) (hI : ∀ f, f < 5 → I' f = I f) (hN : N' 0 = N 0) (hM : ∀ f, f < 5 → M' f = M f) : z_JP I' N' M' := by
  unfold z_JP
  rw [hI 0 (by decide), hI 1 (by decide), hI 2 (by decide), hI 3 (by decide), hI 4 (by decide), hN, hM 0 (by decide), hM 1 (by decide), hM 2 (by decide), hM 3 (by decide), hM 4 (by decide)]
  exact h
theorem z_JG.c (h : z_JG I N O M) (hI : ∀ f, 5 < f → f < 9 → I' f = I f) (h1 : N' 1 = N 1) (h3 : N' 3 = N 3) (h4 : N' 4 = N 4) (h5 : N' 5 = N 5) (hO : O' 0 0 = O 0 0) (hM : ∀ f, 4 < f → f < 13 → M' f = M f) : z_JG I' N' O' M' := by
  unfold z_JG
  rw [hI 6 (by decide) (by decide), hI 7 (by decide) (by decide), hI 8 (by decide) (by decide), h1, h3, h4, h5, hO, hM 5 (by decide) (by decide), hM 6 (by decide) (by decide), hM 7 (by decide) (by decide), hM 8 (by decide) (by decide), hM 9 (by decide) (by decide), hM 10 (by decide) (by decide), hM 11 (by decide) (by decide), hM 12 (by decide) (by decide)]
  exact h
theorem z_JZ.c (h : z_JZ I N M) (h9 : I' 9 = I 9) (h10 : I' 10 = I 10) (h2 : N' 2 = N 2) (hM : ∀ f, 12 < f → f < 16 → M' f = M f) : z_JZ I' N' M' := by
  unfold z_JZ
  rw [h9, h10, h2, hM 13 (by decide) (by decide), hM 14 (by decide) (by decide), hM 15 (by decide) (by decide)]
  exact h
theorem z_JL.c (h : z_JL I N O M) (hI : ∀ f, 10 < f → f < 14 → I' f = I f) (he : z_ed N O ≤ z_ed N' O') (hM : ∀ f, 15 < f → f < 19 → M' f = M f) : z_JL I' N' O' M' := by
  unfold z_JL
  rw [hI 11 (by decide) (by decide), hI 12 (by decide) (by decide), hI 13 (by decide) (by decide), hM 16 (by decide) (by decide), hM 17 (by decide) (by decide), hM 18 (by decide) (by decide)]
  intro n l h1 h2 h3
  obtain ⟨a, b, c, d, x, y, e1, e2, e3, e4⟩ := h n l h1 h2 h3
  exact ⟨a, b, c, d, x, y, e1, e2, by omega, e4⟩
theorem z_JB.c (h : z_JB I) (hI : ∀ f, 10 < f → f < 14 → I' f = I f) : z_JB I' := by
  unfold z_JB
  rw [hI 11 (by decide) (by decide), hI 12 (by decide) (by decide), hI 13 (by decide) (by decide)]
  exact h
theorem z_JM.c (h : z_JM I N O) (h5 : I' 5 = I 5) (h0 : N' 0 = N 0) (h3 : N' 3 = N 3) (h4 : N' 4 = N 4) (he : z_ed N' O' = z_ed N O) : z_JM I' N' O' := by
  unfold z_JM
  rw [h5, h0, h3, h4, he]
  exact h
/-- the reference's notes that no answer of the state rests on -/
theorem z_J.off (h : z_J I N O B M) (hM : ∀ f, f < 19 → M' f = M f) : z_J I N O B M' :=
  ⟨h.1, h.2.1, h.2.2.1.c (fun _ _ => rfl) rfl (fun f hf => hM f (by omega)), h.2.2.2.1.c (fun _ _ _ => rfl) rfl rfl rfl rfl rfl (fun f _ hf => hM f (by omega)), h.2.2.2.2.1.c rfl rfl rfl (fun f _ hf => hM f (by omega)), h.2.2.2.2.2.1.c (fun _ _ _ => rfl) (Nat.le_refl _) (fun f _ hf => hM f (by omega)), h.2.2.2.2.2.2.1, h.2.2.2.2.2.2.2⟩
theorem z_J.off1 (h : z_J I N O B M) {f : Nat} (hf : 19 ≤ f) (j : Nat) (v : Int32) : z_J I N O B (z_sM M f j v) :=
  h.off (fun f' h' => z_sM_f M j v (by omega))
theorem z_J.en (h : z_J I N O B M) : M 5 0 - M 6 0 = nI (z_ed N O) ∧ z_ed N O ≤ 60 ∧ (M 6 0 = 0 ∨ M 6 0 = 1) := by
  obtain ⟨hS, _, _, hG, _⟩ := h
  unfold z_ed
  rw [hG.1, hG.2.1]
  have h60 := hS.2.2.2.2.1
  cases ho : O 0 0 with
  | none => exact ⟨Int32.sub_zero _, h60, Or.inl rfl⟩
  | some g =>
    have := hS.2.2.2.2.2.2.2.1 g ho
    refine ⟨?_, by dsimp only; omega, Or.inr rfl⟩
    dsimp only
    rw [← this, ← nI_1, Int32.add_sub_cancel]
    rfl
end REL
/-! the rules of the game, both ways -/
theorem z_nx_r : ∀ j, j < 1000 → ∀ m, m < 4 → nx (nI j) (nI m) = nI ((7 * j + 13 * m + 5) % 1000) := by decide +kernel
theorem z_wo_r : ∀ j, j < 1000 → -50 ≤ (wo (nI j)).toInt ∧ (wo (nI j)).toInt ≤ 50 := by decide +kernel
theorem z_nxg {x m : Int32} (hx : z_rg x 1000) (hm : z_rg m 4) : z_rg (nx x m) 1000 := by
  obtain ⟨j, hj, rfl⟩ := hx
  obtain ⟨k, hk, rfl⟩ := hm
  exact ⟨_, Nat.mod_lt _ (by decide), z_nx_r j hj k hk⟩
theorem z_wog {x : Int32} (hx : z_rg x 1000) : -50 ≤ (wo x).toInt ∧ (wo x).toInt ≤ 50 := by
  obtain ⟨j, hj, rfl⟩ := hx
  exact z_wo_r j hj
theorem z_bsg {x m f : Int32} (hm : z_rg m 4) (hf : z_rg f 4) : z_rg (bs x m f) 4 := by
  unfold bs
  by_cases h : wo (nx x f) < wo (nx x m)
  · rw [if_pos h]; exact hm
  · rw [if_neg h]; exact hf
theorem z_bstg (x : Int32) : z_rg (bst x) 4 := z_bsg ⟨3, by decide, rfl⟩ (z_bsg ⟨2, by decide, rfl⟩ (z_bsg ⟨1, by decide, rfl⟩ ⟨0, by decide, rfl⟩))
theorem z_sub2 {a b : Int32} (h1 : -50 ≤ a.toInt ∧ a.toInt ≤ 50) (h2 : -50 ≤ b.toInt ∧ b.toInt ≤ 50) : (a - b).toInt = a.toInt - b.toInt := by
  rw [Int32.toInt_sub]
  exact Int.bmod_eq_of_le (by omega) (by omega)
theorem z_bl {x m : Int32} (hx : z_rg x 1000) (hm : z_rg m 4) : blC x m = blM x m := by
  unfold blC blM
  have h1 := z_wog (z_nxg hx (z_bstg x))
  have h2 := z_wog (z_nxg hx hm)
  have e40 : (40 : Int32).toInt = 40 := by decide
  have h3 : (wo (nx x (bst x)) - 40).toInt = (wo (nx x (bst x))).toInt - 40 := by
    rw [Int32.toInt_sub, e40]
    exact Int.bmod_eq_of_le (by omega) (by omega)
  have e : (wo (nx x (bst x)) - wo (nx x m) < 40) ↔ (wo (nx x (bst x)) - 40 < wo (nx x m)) := by
    rw [Int32.lt_iff_toInt_lt, Int32.lt_iff_toInt_lt, z_sub2 h1 h2, h3, e40]
    omega
  by_cases h : wo (nx x (bst x)) - wo (nx x m) < 40
  · rw [if_pos h, if_pos (e.1 h)]
  · rw [if_neg h, if_neg (fun z => h (e.2 z))]
def rbM (r s : Int32) : Int32 :=
  let a := if (1000 : Int32) < r then (r - 1000) / 50 else 0
  let w := r + (if s = 0 then (-16) else 32 - a)
  if w < 100 then 100 else if (3000 : Int32) < w then 3000 else w
theorem z_rb_v : ∀ a, a < 31 → ∀ b, b < 100 → ∀ s, s < 2 → rb (nI (100 * a + b)) (nI s) = rbM (nI (100 * a + b)) (nI s) ∧ 0 ≤ (rb (nI (100 * a + b)) (nI s)).toInt ∧ (rb (nI (100 * a + b)) (nI s)).toInt ≤ 3000 := by decide +kernel
theorem z_rb {r s : Int32} (hr : z_rg r 3001) (hs : s = 0 ∨ s = 1) : rb r s = rbM r s ∧ z_rg (rb r s) 3001 := by
  obtain ⟨j, hj, rfl⟩ := hr
  have key : ∀ k, k < 2 → s = nI k → rb (nI j) s = rbM (nI j) s ∧ z_rg (rb (nI j) s) 3001 := by
    rintro k hk rfl
    have e : 100 * (j / 100) + j % 100 = j := by omega
    obtain ⟨h1, h2, h3⟩ := z_rb_v (j / 100) (by omega) (j % 100) (by omega) k hk
    rw [e] at h1 h2 h3
    refine ⟨h1, (rb (nI j) (nI k)).toInt.toNat, by omega, Int32.toInt_inj.mp ?_⟩
    rw [nI_toInt (by omega)]
    omega
  rcases hs with rfl | rfl
  · exact key 0 (by decide) rfl
  · exact key 1 (by decide) rfl

