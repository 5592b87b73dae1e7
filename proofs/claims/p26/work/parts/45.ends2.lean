/-! an end told purely: some tables of a reference go with it -/
theorem z_arc (a b c : Int32) : a + b + c = a + c + b := by rw [Int32.add_assoc, Int32.add_comm b c, ← Int32.add_assoc]
def z_ui (t : Nat) : Nat × Nat := if t < 4 then (1, t) else if t < 20 then (2, t - 4) else if t < 84 then (3, t - 20) else if t < 340 then (4, t - 84) else if t < 1364 then (5, t - 340) else (6, t - 1364)
theorem z_ui_s : ∀ n l : Nat, 1 ≤ n → n ≤ 6 → l < 4 ^ n → z_ui (z_sh n + l) = (n, l) := by
  intro n l h1 h6 hl
  have h : n = 1 ∨ n = 2 ∨ n = 3 ∨ n = 4 ∨ n = 5 ∨ n = 6 := by omega
  unfold z_ui
  rcases h with rfl | rfl | rfl | rfl | rfl | rfl
  · have e : z_sh 1 = 0 := by decide
    have hl : l < 4 := hl
    rw [e, if_pos (by omega), Nat.zero_add]
  · have e : z_sh 2 = 4 := by decide
    have hl : l < 16 := hl
    rw [e, if_neg (by omega), if_pos (by omega), Nat.add_sub_cancel_left]
  · have e : z_sh 3 = 20 := by decide
    have hl : l < 64 := hl
    rw [e, if_neg (by omega), if_neg (by omega), if_pos (by omega), Nat.add_sub_cancel_left]
  · have e : z_sh 4 = 84 := by decide
    have hl : l < 256 := hl
    rw [e, if_neg (by omega), if_neg (by omega), if_neg (by omega), if_pos (by omega), Nat.add_sub_cancel_left]
  · have e : z_sh 5 = 340 := by decide
    have hl : l < 1024 := hl
    rw [e, if_neg (by omega), if_neg (by omega), if_neg (by omega), if_neg (by omega), if_pos (by omega), Nat.add_sub_cancel_left]
  · have e : z_sh 6 = 1364 := by decide
    rw [e, if_neg (by omega), if_neg (by omega), if_neg (by omega), if_neg (by omega), if_neg (by omega), Nat.add_sub_cancel_left]
section EW
variable {mv : Nat → Nat} {r : Int32}
theorem z_ar_v : ∀ (m : Nat) (I : z_TI) (B : z_TB) (i n : Nat), i < n → n ≤ i + m →
    ((∀ k, i < k → k ≤ n → I 13 k (z_px mv k) = 0) → (z_ar mv r m I B i).1 11 n (z_px mv n) = I 11 n (z_px mv n) + 1 ∧ (z_ar mv r m I B i).1 12 n (z_px mv n) = I 12 n (z_px mv n) + r) ∧
    (¬ (∀ k, i < k → k ≤ n → I 13 k (z_px mv k) = 0) → (z_ar mv r m I B i).1 11 n (z_px mv n) = I 11 n (z_px mv n) ∧ (z_ar mv r m I B i).1 12 n (z_px mv n) = I 12 n (z_px mv n))
  | 0, _, _, i, n, h1, h2 => by omega
  | m + 1, I, B, i, n, h1, h2 => by
    rw [z_ar]
    by_cases h13 : I 13 (i + 1) (z_px mv (i + 1)) = 0
    · rw [if_pos h13]
      have e13 : ∀ k, z_sI (z_sI I 11 (i + 1) (z_px mv (i + 1)) (I 11 (i + 1) (z_px mv (i + 1)) + 1)) 12 (i + 1) (z_px mv (i + 1)) (I 12 (i + 1) (z_px mv (i + 1)) + r) 13 k (z_px mv k) = I 13 k (z_px mv k) := fun k => by
        rw [z_sI_f _ _ _ _ (by decide), z_sI_f _ _ _ _ (by decide)]
      by_cases q : n = i + 1
      · subst q
        have ho := z_ar_o (mv := mv) (r := r) m (z_sI (z_sI I 11 (i + 1) (z_px mv (i + 1)) (I 11 (i + 1) (z_px mv (i + 1)) + 1)) 12 (i + 1) (z_px mv (i + 1)) (I 12 (i + 1) (z_px mv (i + 1)) + r)) (z_sB B (i + 1) (z_px mv (i + 1))) (i + 1) (i + 1) (z_px mv (i + 1)) (fun k a b => by omega)
        refine ⟨fun _ => ⟨?_, ?_⟩, fun hn => absurd (fun k a b => ?_) hn⟩
        · rw [ho.1, z_sI_f _ _ _ _ (by decide), z_sI_s]
        · rw [ho.2, z_sI_s]
        · have : k = i + 1 := by omega
          rw [this]
          exact h13
      · have ih := z_ar_v m (z_sI (z_sI I 11 (i + 1) (z_px mv (i + 1)) (I 11 (i + 1) (z_px mv (i + 1)) + 1)) 12 (i + 1) (z_px mv (i + 1)) (I 12 (i + 1) (z_px mv (i + 1)) + r)) (z_sB B (i + 1) (z_px mv (i + 1))) (i + 1) n (by omega) (by omega)
        have e11 : z_sI (z_sI I 11 (i + 1) (z_px mv (i + 1)) (I 11 (i + 1) (z_px mv (i + 1)) + 1)) 12 (i + 1) (z_px mv (i + 1)) (I 12 (i + 1) (z_px mv (i + 1)) + r) 11 n (z_px mv n) = I 11 n (z_px mv n) := by
          rw [z_sI_f _ _ _ _ (by decide), z_sI_i _ _ _ _ q]
        have e12 : z_sI (z_sI I 11 (i + 1) (z_px mv (i + 1)) (I 11 (i + 1) (z_px mv (i + 1)) + 1)) 12 (i + 1) (z_px mv (i + 1)) (I 12 (i + 1) (z_px mv (i + 1)) + r) 12 n (z_px mv n) = I 12 n (z_px mv n) := by
          rw [z_sI_i _ _ _ _ q, z_sI_f _ _ _ _ (by decide)]
        rw [e11, e12] at ih
        refine ⟨fun h => ih.1 (fun k a b => by rw [e13]; exact h k (by omega) b), fun h => ih.2 (fun h2 => h (fun k a b => ?_))⟩
        by_cases e : k = i + 1
        · rw [e]; exact h13
        · have := h2 k (by omega) b
          rw [e13] at this
          exact this
    · rw [if_neg h13]
      exact ⟨fun h => absurd (h (i + 1) (by omega) (by omega)) h13, fun _ => ⟨rfl, rfl⟩⟩
/-- a result put: each line gains it, or stays -/
def z_on (mv : Nat → Nat) (kn : Nat) (I : z_TI) (n l : Nat) : Prop := n ≤ kn ∧ l = z_px mv n ∧ ∀ k, 1 ≤ k → k ≤ n → I 13 k (z_px mv k) = 0
theorem z_ar_w {kn : Nat} {I : z_TI} {B : z_TB} {n l : Nat} (h1 : 1 ≤ n) : (z_on mv kn I n l ∧ (z_ar mv r kn I B 0).1 11 n l = I 11 n l + 1 ∧ (z_ar mv r kn I B 0).1 12 n l = I 12 n l + r) ∨ (¬ z_on mv kn I n l ∧ (z_ar mv r kn I B 0).1 11 n l = I 11 n l ∧ (z_ar mv r kn I B 0).1 12 n l = I 12 n l) := by
  by_cases hp : n ≤ kn ∧ l = z_px mv n
  · obtain ⟨hk, rfl⟩ := hp
    have hv := z_ar_v (mv := mv) (r := r) kn I B 0 n h1 (by omega)
    by_cases al : ∀ k, 0 < k → k ≤ n → I 13 k (z_px mv k) = 0
    · exact Or.inl ⟨⟨hk, rfl, al⟩, hv.1 al⟩
    · exact Or.inr ⟨fun z => al z.2.2, hv.2 al⟩
  · exact Or.inr ⟨fun z => hp ⟨z.1, z.2.1⟩, z_ar_o (mv := mv) (r := r) kn I B 0 n l (fun k a b z => hp ⟨by omega, by rw [z.2, z.1]⟩)⟩
end EW
section EX
variable {I : z_TI} {N : z_TN} {O : z_TO} {B : z_TB} {M : z_TM}
/-- the state behind an end, its puzzles not made yet -/
theorem z_J.endB (h : z_J I N O B M) {g : Nat} (ho : O 0 0 = some g) {x : Int32} (hx : z_rg x 3) : ∃ M', z_J (z_kI (z_e2 I N g x) N B g) N (z_sO O 0 0 none) (z_k1 (z_e2 I N g x) N B g).2 M' ∧
    (∀ f, f ≠ 13 → z_kI (z_e2 I N g x) N B g f = (z_ar (z_mv (z_e2 I N g x) g) x (z_kn N g) (z_e2 I N g x) B 0).1 f) ∧ (∀ n l, 1 ≤ n → n ≤ 6 → l < 4 ^ n → z_kI (z_e2 I N g x) N B g 13 n l = 0 → I 13 n l = 0) := by
  have hS := h.1
  have hg1 : g + 1 = N 1 0 := hS.2.2.2.2.2.2.2.1 g ho
  obtain ⟨hJ8, hl8, hed⟩ := h.endA ho hx
  obtain ⟨rr, hrr, rfl⟩ := hx
  have e7 : z_e2 I N g (nI rr) 7 g 0 = nI rr := by rw [z_e2_7, if_pos rfl]
  have hbk := hJ8.book (g := g) (e := z_ed N O) (rr := rr) (by omega) hl8 (Nat.le_of_eq hed.symm) e7
  have e13 : ∀ n l, (z_ar (z_mv (z_e2 I N g (nI rr)) g) (nI rr) (z_kn N g) (z_e2 I N g (nI rr)) B 0).1 13 n l = I 13 n l := fun n l => by
    rw [z_arf (by decide) (by decide), z_e2_f (by decide) (by decide) (by decide) (by decide) (by decide)]
  let M' : z_TM := fun f j => if f = 16 then z_kI (z_e2 I N g (nI rr)) N B g 11 (z_ui j).1 (z_ui j).2 else if f = 17 then z_kI (z_e2 I N g (nI rr)) N B g 12 (z_ui j).1 (z_ui j).2 else if f = 18 then z_kI (z_e2 I N g (nI rr)) N B g 13 (z_ui j).1 (z_ui j).2 else z_me M g (N 3 g) (N 4 g) (nI rr) f j
  refine ⟨M', hbk.2.2.2 M' (fun f a b c => ?_) (fun n l a b c => ?_), ?_, fun n l a b c h0 => ?_⟩
  · show (fun j => _) = _
    funext j
    rw [if_neg a, if_neg b, if_neg c]
  · have m16 : M' 16 (z_sh n + l) = z_kI (z_e2 I N g (nI rr)) N B g 11 (z_ui (z_sh n + l)).1 (z_ui (z_sh n + l)).2 := rfl
    have m17 : M' 17 (z_sh n + l) = z_kI (z_e2 I N g (nI rr)) N B g 12 (z_ui (z_sh n + l)).1 (z_ui (z_sh n + l)).2 := rfl
    have m18 : M' 18 (z_sh n + l) = z_kI (z_e2 I N g (nI rr)) N B g 13 (z_ui (z_sh n + l)).1 (z_ui (z_sh n + l)).2 := rfl
    rw [m16, m17, m18, z_ui_s n l a b c]
    refine ⟨rfl, rfl, rfl, hbk.2.1 n l a b c, ?_⟩
    rw [hbk.2.2.1 11 (by decide), hbk.2.2.1 12 (by decide)]
    obtain ⟨-, -, -, -, c0, s0, a5, a6, a7, a8⟩ := hl8 n l a b c
    rcases z_ar_w (mv := z_mv (z_e2 I N g (nI rr)) g) (r := nI rr) (kn := z_kn N g) (I := z_e2 I N g (nI rr)) (B := B) (n := n) (l := l) a with ⟨-, b1, b2⟩ | ⟨-, b1, b2⟩
    · rw [b1, b2, a5, a6]
      exact ⟨c0 + 1, s0 + rr, nI_1 _, nI_add _ _, Nat.succ_le_succ a7, by omega⟩
    · rw [b1, b2]
      exact ⟨c0, s0, a5, a6, Nat.le_succ_of_le a7, a8⟩
  · exact hbk.2.2.1
  · have h2 := fun z => (hbk.1 n l a b c).2 (Or.inl z)
    rw [e13] at h2
    exact Classical.not_not.1 (fun z => h2 z h0)
theorem z_mk_f {gm : Int32} {mv : Nat → Int32} : ∀ (m : Nat) (I : z_TI) (N : z_TN) (i : Nat) (x c : Int32), (∀ f, f ≠ 9 → f ≠ 10 → (z_mk gm mv m I N i x c).1 f = I f) ∧ (∀ f, f ≠ 2 → f ≠ 8 → (z_mk gm mv m I N i x c).2.1 f = N f)
  | 0, _, _, _, _, _ => ⟨fun _ _ _ => rfl, fun _ _ _ => rfl⟩
  | m + 1, I, N, i, x, c => by
    rw [z_mk]
    by_cases h : blC x (mv i) = 0 ∨ ¬ N 2 0 < 40 ∨ z_hp I N x
    · rw [if_pos h]
      exact z_mk_f m I N (i + 1) _ _
    · rw [if_neg h]
      have ih := z_mk_f (gm := gm) (mv := mv) m (z_IZ I (N 2 0) x gm) (z_NZ N) (i + 1) (nx x (mv i)) (c + 1)
      refine ⟨fun f a b => (ih.1 f a b).trans ?_, fun f a b => (ih.2 f a b).trans ?_⟩
      · unfold z_IZ; rw [z_sF_f _ _ _ b, z_sF_f _ _ _ a]
      · unfold z_NZ; rw [z_sN_f _ _ _ a, z_sN_f _ _ _ b]
theorem z_J.mk {gm : Int32} {mv : Nat → Int32} : ∀ (m : Nat) (I : z_TI) (N : z_TN) (M : z_TM) (i : Nat) (x c : Int32), z_J I N O B M → z_rg x 1000 → (∀ j, i ≤ j → j < i + m → z_rg (mv j) 4) → ∃ M', z_J (z_mk gm mv m I N i x c).1 (z_mk gm mv m I N i x c).2.1 O B M'
  | 0, _, _, M, _, _, _, h, _, _ => ⟨M, h⟩
  | m + 1, I, N, M, i, x, c, h, hx, hm => by
    rw [z_mk]
    have hx2 := z_nxg hx (hm i (Nat.le_refl _) (by omega))
    have hm2 : ∀ j, i + 1 ≤ j → j < i + 1 + m → z_rg (mv j) 4 := fun j a b => hm j (by omega) (by omega)
    by_cases hc : blC x (mv i) = 0 ∨ ¬ N 2 0 < 40 ∨ z_hp I N x
    · rw [if_pos hc]
      exact z_J.mk m I N M (i + 1) _ _ h hx2 hm2
    · rw [if_neg hc]
      have h40 : N 2 0 < 40 := Classical.not_not.1 (fun z => hc (Or.inr (Or.inl z)))
      exact z_J.mk m _ _ _ (i + 1) _ _ (h.addZ h40 hx (gm := gm)) hx2 hm2
/-- the puzzles stand for unlike positions, and in the order of their games -/
def z_kZ (I : z_TI) (N : z_TN) (e : Nat) : Prop := (∀ z z', z < z' → z' < N 2 0 → I 9 z 0 ≠ I 9 z' 0) ∧ ∃ src : Nat → Nat, (∀ z, z < N 2 0 → I 10 z 0 = nI (src z) ∧ src z < e) ∧ ∀ z z', z < z' → z' < N 2 0 → src z ≤ src z'
theorem z_kZ.c {I' : z_TI} {N' : z_TN} {e e' : Nat} (h : z_kZ I N e) (h9 : I' 9 = I 9) (h10 : I' 10 = I 10) (h2 : N' 2 = N 2) (he : e ≤ e') : z_kZ I' N' e' := by
  obtain ⟨h1, src, h3, h4⟩ := h
  unfold z_kZ
  rw [h9, h10, h2]
  exact ⟨h1, src, fun z hz => ⟨(h3 z hz).1, Nat.lt_of_lt_of_le (h3 z hz).2 he⟩, h4⟩
theorem z_kZ.mk {g : Nat} {mv : Nat → Int32} : ∀ (m : Nat) (I : z_TI) (N : z_TN) (i : Nat) (x c : Int32), N 8 0 = N 2 0 → z_kZ I N (g + 1) → z_kZ (z_mk (nI g) mv m I N i x c).1 (z_mk (nI g) mv m I N i x c).2.1 (g + 1) ∧ (z_mk (nI g) mv m I N i x c).2.2 + nI (N 2 0) = c + nI ((z_mk (nI g) mv m I N i x c).2.1 2 0) ∧ N 2 0 ≤ (z_mk (nI g) mv m I N i x c).2.1 2 0 ∧ (z_mk (nI g) mv m I N i x c).2.1 2 0 ≤ N 2 0 + m
  | 0, _, _, _, _, _, _, h => ⟨h, rfl, Nat.le_refl _, Nat.le_refl _⟩
  | m + 1, I, N, i, x, c, h8, h => by
    rw [z_mk]
    by_cases hc : blC x (mv i) = 0 ∨ ¬ N 2 0 < 40 ∨ z_hp I N x
    · rw [if_pos hc]
      have ih := z_kZ.mk (g := g) (mv := mv) m I N (i + 1) (nx x (mv i)) c h8 h
      exact ⟨ih.1, ih.2.1, ih.2.2.1, by omega⟩
    · rw [if_neg hc]
      have hh : ¬ z_hp I N x := fun z => hc (Or.inr (Or.inr z))
      have e2 : z_NZ N 2 0 = N 2 0 + 1 := by simp [z_NZ, z_sN]
      have e8 : z_NZ N 8 0 = N 2 0 + 1 := by simp [z_NZ, z_sN]
      have e9 : ∀ f z, z ≠ N 2 0 → z_IZ I (N 2 0) x (nI g) f z = I f z := fun f z q => by
        unfold z_IZ
        rw [z_sF_ne _ _ q, z_sF_ne _ _ q]
      have en9 : z_IZ I (N 2 0) x (nI g) 9 (N 2 0) 0 = x := by simp [z_IZ, z_sF]
      have en10 : z_IZ I (N 2 0) x (nI g) 10 (N 2 0) 0 = nI g := by simp [z_IZ, z_sF]
      have hk : z_kZ (z_IZ I (N 2 0) x (nI g)) (z_NZ N) (g + 1) := by
        obtain ⟨h1, src, h3, h4⟩ := h
        refine ⟨fun z z' a b => ?_, fun z => if z = N 2 0 then g else src z, fun z hz => ?_, fun z z' a b => ?_⟩
        · rw [e2] at b
          rw [e9 9 z (by omega)]
          by_cases q : z' = N 2 0
          · rw [q, en9]
            exact fun e => hh ⟨z, by omega, e⟩
          · rw [e9 9 z' q]
            exact h1 z z' a (by omega)
        · rw [e2] at hz
          by_cases q : z = N 2 0
          · rw [q, en10]
            dsimp only
            rw [if_pos rfl]
            exact ⟨rfl, by omega⟩
          · rw [e9 10 z q]
            dsimp only
            rw [if_neg q]
            exact h3 z (by omega)
        · rw [e2] at b
          dsimp only
          rw [if_neg (show z ≠ N 2 0 by omega)]
          have := (h3 z (by omega)).2
          by_cases q : z' = N 2 0
          · rw [if_pos q]; omega
          · rw [if_neg q]; exact h4 z z' a (by omega)
      have ih := z_kZ.mk (g := g) (mv := mv) m (z_IZ I (N 2 0) x (nI g)) (z_NZ N) (i + 1) (nx x (mv i)) (c + 1) (by rw [e8, e2]) hk
      rw [e2] at ih
      refine ⟨ih.1, ?_, by omega, by omega⟩
      have h5 := ih.2.1
      rw [← nI_1 (N 2 0), ← Int32.add_assoc, z_arc c 1] at h5
      have h6 := congrArg (fun t => t - 1) h5
      rw [Int32.add_sub_cancel, Int32.add_sub_cancel] at h6
      exact h6
end EX

