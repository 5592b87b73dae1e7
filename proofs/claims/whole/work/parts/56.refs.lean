/-! the reference's calls beside the class's: the same answer, the same exception, the relation again -/
theorem z_px_d {mv : Nat → Nat} {n : Nat} (h : ∀ i, i < n → mv i < 4) {i : Nat} (hi : i < n) : z_px mv n / 4 ^ i % 4 = mv i := by
  have h1 := z_px_le h (k := i + 1) n hi (Nat.le_refl _)
  have h2 := z_px_le h (k := i) n (by omega) (Nat.le_refl _)
  rw [Nat.mod_pow_succ, h2] at h1
  have h3 : z_px mv (i + 1) = z_px mv i + mv i * 4 ^ i := rfl
  rw [h3, Nat.mul_comm (mv i)] at h1
  exact Nat.eq_of_mul_eq_mul_left (Nat.pow_pos (by decide)) (Nat.add_left_cancel h1)
theorem z_px_g {l : Nat} : ∀ n, z_px (fun i => l / 4 ^ i % 4) n = l % 4 ^ n
  | 0 => by rw [Nat.pow_zero, Nat.mod_one]; rfl
  | n + 1 => by
    rw [Nat.mod_pow_succ, ← z_px_g n, Nat.mul_comm]
    rfl
theorem z_px_i {mv : Nat → Nat} {n l : Nat} (h : ∀ i, i < n → mv i < 4) (hl : l < 4 ^ n) : z_px mv n = l ↔ ∀ i, i < n → mv i = l / 4 ^ i % 4 := by
  constructor
  · rintro rfl i hi
    exact (z_px_d h hi).symm
  · intro e
    rw [z_px_c n e, z_px_g, Nat.mod_eq_of_lt hl]
section RFS
variable {G : z_G} {F : Nat → Prop} {A6 : z_TA} {M : z_TM} {w : z_W} {I I' : z_TI} {N N' : z_TN} {O O' : z_TO} {B B' : z_TB} {k r : Int32}
theorem z_J.hmv (h : z_J I N O B M) {g i : Nat} (hg : g < N 1 0) (hi : i < N 5 g) : I 8 g i = nI (z_mv I g i) ∧ z_mv I g i < 4 ∧ M 12 (12 * g + i) = I 8 g i := by
  have h1 := (h.2.2.2.1.2.2.2.1 g hg).2.2.2.2.2.2 i hi
  obtain ⟨j, hj, e⟩ := h1.2
  have e2 : z_mv I g i = j := by unfold z_mv; rw [e, nI_clamp (by omega)]
  exact ⟨by rw [e2, e], by omega, h1.1⟩
theorem z_J.mp1 (h : z_J I N O B M) {l n : Nat} (hl : l < 4 ^ n) (h6 : n ≤ 6) : ∀ K, K ≤ z_ed N O → z_mp M (N 5) (z_mv I) l n K = z_pg I N O l n K
  | 0, _ => rfl
  | K + 1, hK => by
    have hS := h.1
    have he := z_ed_le (N := N) (O := O)
    have hp4 := z_p4 n (by omega)
    have hK1 : K < N 1 0 := by omega
    have hO : O 0 0 ≠ some K := fun z => by
      have := hS.2.2.2.2.2.2.2.1 K z
      unfold z_ed at hK
      rw [z] at hK
      dsimp only at hK
      omega
    rw [z_mp, z_pg, z_J.mp1 h hl h6 K (by omega)]
    have key : (n ≤ N 5 K ∧ z_px (z_mv I K) n = l) ↔ (K < N 7 0 ∧ O 0 0 ≠ some K ∧ (n ≤ N 5 K ∧ ∀ i, i < n → I 8 K i = nI (l / 4 ^ i % 4))) := by
      have e : n ≤ N 5 K → (z_px (z_mv I K) n = l ↔ ∀ i, i < n → I 8 K i = nI (l / 4 ^ i % 4)) := fun hn => by
        rw [z_px_i (fun i hi => (h.hmv hK1 (by omega)).2.1) hl]
        refine forall_congr' fun i => forall_congr' fun hi => ?_
        have hi2 := h.hmv hK1 (show i < N 5 K by omega)
        rw [hi2.1, nI_eq (by omega) (by omega)]
      exact ⟨fun z => ⟨by rw [hS.2.1]; exact hK1, hO, z.1, (e z.1).1 z.2⟩, fun z => ⟨z.2.2.1, (e z.2.2.1).2 z.2.2.2⟩⟩
    by_cases c : n ≤ N 5 K ∧ z_px (z_mv I K) n = l
    · rw [if_pos c, if_pos (key.1 c), (h.2.2.2.1.2.2.2.1 K hK1).2.2.2.2.1]
    · rw [if_neg c, if_neg (fun z => c (key.2 z))]
theorem z_J.mp2 (h : z_J I N O B M) {l n : Nat} : ∀ d, z_pg I N O l n (z_ed N O + d) = z_pg I N O l n (z_ed N O)
  | 0 => rfl
  | d + 1 => by
    rw [show z_ed N O + (d + 1) = (z_ed N O + d) + 1 by omega, z_pg, z_J.mp2 h d]
    refine if_neg (fun z => ?_)
    have hS := h.1
    have h1 := z.1
    have h2 := z.2.1
    rw [hS.2.1] at h1
    unfold z_ed at h1 h2
    cases ho : O 0 0 with
    | none => rw [ho] at h1; dsimp only at h1; omega
    | some g =>
      have hg := hS.2.2.2.2.2.2.2.1 g ho
      rw [ho] at h1 h2
      dsimp only at h1 h2
      exact h2 (by rw [show N 1 0 - 1 + d = g by omega])
theorem z_J.mp (h : z_J I N O B M) {l n : Nat} (hl : l < 4 ^ n) (h6 : n ≤ 6) : z_mp M (N 5) (z_mv I) l n (z_ed N O) = z_pg I N O l n 60 := by
  have h60 := h.en.2.1
  rw [h.mp1 hl h6 _ (Nat.le_refl _), ← h.mp2 (60 - z_ed N O), show z_ed N O + (60 - z_ed N O) = 60 by omega]
theorem z_J.n6 (h : z_J I N O B M) : M 0 0 = nI (N 6 0) ∧ N 6 0 ≤ 8 ∧ M 13 0 = nI (N 8 0) ∧ N 8 0 ≤ 40 := by
  have hS := h.1
  rw [hS.1, hS.2.2.1]
  exact ⟨h.2.2.1.1, hS.2.2.2.1, h.2.2.2.2.1.1, hS.2.2.2.2.2.1⟩
theorem rL_after (hM : z_Mo G F A6 M w) (hJ : z_J I N O B M) (x y : Int32) (hq : z_Qp (z_rg x 1000 ∧ z_rg y 4) (nx x y) I N O B k r I' N' O' B') : z_M G zX6_after 2 [.ref (A6 22 0 0), .int x, .int y] w 0 0 (z_kr G F A6 w k r I' N' O' B') z_nx :=
  z_M.mono (mX6_after hM x y) (z_kr_p hJ hq (fun _ => rfl)) (fun _ _ h => h)
theorem rL_worth (hM : z_Mo G F A6 M w) (hJ : z_J I N O B M) (x : Int32) (hq : z_Qp (z_rg x 1000) (wo x) I N O B k r I' N' O' B') : z_M G zX6_worth 3 [.ref (A6 22 0 0), .int x] w 0 0 (z_kr G F A6 w k r I' N' O' B') z_nx :=
  z_M.mono (mX6_worth hM x) (z_kr_p hJ hq (fun _ => rfl)) (fun _ _ h => h)
theorem rL_best (hM : z_Mo G F A6 M w) (hJ : z_J I N O B M) (x : Int32) (hq : z_Qp (z_rg x 1000) (bst x) I N O B k r I' N' O' B') : z_M G zX6_best 3 [.ref (A6 22 0 0), .int x] w 0 0 (z_kr G F A6 w k r I' N' O' B') z_nx :=
  z_M.mono (mX6_best hM x) (z_kr_p hJ hq (fun _ => rfl)) (fun _ _ h => h)
theorem rL_score (hM : z_Mo G F A6 M w) (hJ : z_J I N O B M) (x : Int32) (hq : z_Qp (z_rg x (N 6 0)) (I 2 x.toNatClampNeg 0) I N O B k r I' N' O' B') : z_M G zX6_score 2 [.ref (A6 22 0 0), .int x] w 0 0 (z_kr G F A6 w k r I' N' O' B') z_nx := by
  refine z_M.mono (mX6_score hM hJ.n6.1 hJ.n6.2.1 x) (z_kr_p hJ hq (fun hP => ?_)) (fun _ _ h => h)
  obtain ⟨p, hp, rfl⟩ := hP
  have h8 := hJ.n6.2.1
  rw [nI_clamp (show p < 2 ^ 31 by omega)]
  exact (hJ.2.2.1.2.1 p (by rw [← hJ.1.1]; exact hp)).1
theorem rL_puzzle (hM : z_Mo G F A6 M w) (hJ : z_J I N O B M) (x : Int32) (hq : z_Qp (z_rg x (N 8 0)) (I 9 x.toNatClampNeg 0) I N O B k r I' N' O' B') : z_M G zX6_puzzle 2 [.ref (A6 22 0 0), .int x] w 0 0 (z_kr G F A6 w k r I' N' O' B') z_nx := by
  refine z_M.mono (mX6_puzzle hM hJ.n6.2.2.1 hJ.n6.2.2.2 x) (z_kr_p hJ hq (fun hP => ?_)) (fun _ _ h => h)
  obtain ⟨p, hp, rfl⟩ := hP
  have h8 := hJ.n6.2.2.2
  rw [nI_clamp (show p < 2 ^ 31 by omega)]
  exact (hJ.2.2.2.2.1.2 p (by rw [← hJ.1.2.2.1]; exact hp)).1
theorem rL_source (hM : z_Mo G F A6 M w) (hJ : z_J I N O B M) (x : Int32) (hq : z_Qp (z_rg x (N 8 0)) (I 10 x.toNatClampNeg 0) I N O B k r I' N' O' B') : z_M G zX6_source 2 [.ref (A6 22 0 0), .int x] w 0 0 (z_kr G F A6 w k r I' N' O' B') z_nx := by
  refine z_M.mono (mX6_source hM hJ.n6.2.2.1 hJ.n6.2.2.2 x) (z_kr_p hJ hq (fun hP => ?_)) (fun _ _ h => h)
  obtain ⟨p, hp, rfl⟩ := hP
  have h8 := hJ.n6.2.2.2
  rw [nI_clamp (show p < 2 ^ 31 by omega)]
  exact (hJ.2.2.2.2.1.2 p (by rw [← hJ.1.2.2.1]; exact hp)).2.1
theorem rL_offered (hM : z_Mo G F A6 M w) (hJ : z_J I N O B M) (x : Int32) (hq : z_Qp (z_rg x (N 6 0)) (z_fi (z_of I x.toNatClampNeg (N 8 0) 40)) I N O B k r I' N' O' B') : z_M G zX6_offered 2 [.ref (A6 22 0 0), .int x] w 0 0 (z_kr G F A6 w k r I' N' O' B') z_nx := by
  refine z_M.mono (mX6_offered hM hJ x) (fun v w' h => ?_) (fun _ _ h => h)
  have h8 := hJ.n6.2.1
  obtain ⟨hf, hM', h⟩ := h
  obtain ⟨⟨rfl, rfl, rfl, rfl⟩, ⟨hP, rfl, rfl⟩ | ⟨hP, rfl⟩⟩ := hq
  · rcases h with ⟨p, hp, rfl, rfl⟩ | ⟨hn, -⟩
    · exact ⟨_, _, rfl, hJ.set21 _, by rw [z_sM_s, z_upd_s, z_go_0 hP trivial trivial], fun _ => by rw [nI_clamp (show p < 2 ^ 31 by omega)], hM', hf⟩
    · exact absurd hP hn
  · rcases h with ⟨p, hp, rfl, rfl⟩ | ⟨hn, rfl⟩
    · exact absurd ⟨p, hp, rfl⟩ hP
    · exact ⟨_, _, rfl, hJ.set21 _, by rw [z_sM_s, z_upd_s, z_go_1 hP], fun z => absurd z (by decide), hM', hf⟩
theorem z_J.l16 (hJ : z_J I N O B M) {l n : Nat} (h1 : 1 ≤ n) (h6 : n ≤ 6) (hl : l < 4 ^ n) : M 16 (z_sh n + l) = (if B n l then I 11 n l else 0) ∧ M 17 (z_sh n + l) = (if B n l then I 12 n l else 0) := by
  obtain ⟨a, b, -⟩ := hJ.2.2.2.2.2.1 n l h1 h6 hl
  rw [a, b]
  cases hB : B n l with
  | true => exact ⟨rfl, rfl⟩
  | false => exact ⟨(hJ.2.1 n l hB).1, (hJ.2.1 n l hB).2.1⟩
theorem rL_results (hM : z_Mo G F A6 M w) (hJ : z_J I N O B M) (x y : Int32) (hq : z_Qp (z_ln x y) (if B y.toNatClampNeg x.toNatClampNeg then I 11 y.toNatClampNeg x.toNatClampNeg else 0) I N O B k r I' N' O' B') : z_M G zX6_results 2 [.ref (A6 22 0 0), .int x, .int y] w 0 0 (z_kr G F A6 w k r I' N' O' B') z_nx := by
  refine z_M.mono (mX6_results hM x y) (z_kr_p hJ hq (fun hP => ?_)) (fun _ _ h => h)
  obtain ⟨l, n, h1, h6, hl, rfl, rfl⟩ := hP
  have hp4 := z_p4 n (by omega)
  rw [nI_clamp (show l < 2 ^ 31 by omega), nI_clamp (show n < 2 ^ 31 by omega)]
  exact (hJ.l16 h1 h6 hl).1
theorem rL_points (hM : z_Mo G F A6 M w) (hJ : z_J I N O B M) (x y : Int32) (hq : z_Qp (z_ln x y) (if B y.toNatClampNeg x.toNatClampNeg then I 12 y.toNatClampNeg x.toNatClampNeg else 0) I N O B k r I' N' O' B') : z_M G zX6_points 2 [.ref (A6 22 0 0), .int x, .int y] w 0 0 (z_kr G F A6 w k r I' N' O' B') z_nx := by
  refine z_M.mono (mX6_points hM x y) (z_kr_p hJ hq (fun hP => ?_)) (fun _ _ h => h)
  obtain ⟨l, n, h1, h6, hl, rfl, rfl⟩ := hP
  have hp4 := z_p4 n (by omega)
  rw [nI_clamp (show l < 2 ^ 31 by omega), nI_clamp (show n < 2 ^ 31 by omega)]
  exact (hJ.l16 h1 h6 hl).2
theorem rL_pointsOfGames (hM : z_Mo G F A6 M w) (hJ : z_J I N O B M) (x y : Int32) (hq : z_Qp (z_ln x y) (z_pg I N O x.toNatClampNeg y.toNatClampNeg 60) I N O B k r I' N' O' B') : z_M G zX6_pointsOfGames 2 [.ref (A6 22 0 0), .int x, .int y] w 0 0 (z_kr G F A6 w k r I' N' O' B') z_nx := by
  have en := hJ.en
  have he := z_ed_le (N := N) (O := O)
  refine z_M.mono (mX6_pointsOfGames hM en.2.2 en.1 en.2.1 (mc := N 5) (mv := z_mv I) (fun g hg => ⟨(hJ.2.2.2.1.2.2.2.1 g (by omega)).2.2.2.1, (hJ.1.2.2.2.2.2.2.1 g (by omega)).2.2⟩) (fun g hg i hi => ?_) x y) (z_kr_p hJ hq (fun hP => ?_)) (fun _ _ h => h)
  · have := hJ.hmv (show g < N 1 0 by omega) hi
    exact ⟨this.2.2.trans this.1, this.2.1⟩
  · obtain ⟨l, n, h1, h6, hl, rfl, rfl⟩ := hP
    have hp4 := z_p4 n (by omega)
    rw [nI_clamp (show l < 2 ^ 31 by omega), nI_clamp (show n < 2 ^ 31 by omega)]
    exact hJ.mp hl h6
theorem rL_isDropped (hM : z_Mo G F A6 M w) (hJ : z_J I N O B M) (x y : Int32) (hq : z_Qz (z_Qp (z_ln x y) (if z_hd I B x.toNatClampNeg y.toNatClampNeg then 1 else 0) I N O B) k r I' N' O' B') : z_M G zX6_isDropped 2 [.ref (A6 22 0 0), .int x, .int y] w 0 0 (z_kr G F A6 w k r I' N' O' B') z_nx := by
  refine z_M.mono (mX6_isDropped hM x y) (fun v w' h => ?_) (fun _ _ h => h)
  obtain ⟨rfl, hM', hf⟩ := h
  obtain ⟨⟨rfl, rfl, rfl, rfl⟩, ⟨hP, rfl, rfl⟩ | ⟨hP, rfl⟩⟩ := hq.1
  · refine ⟨_, _, rfl, hJ.set21 _, by rw [z_sM_s, z_upd_s, z_go_0 hP trivial trivial], fun _ => ?_, hM', hf⟩
    obtain ⟨l, n, h1, h6, hl, rfl, rfl⟩ := id hP
    have hp4 := z_p4 n (by omega)
    rw [nI_clamp (show l < 2 ^ 31 by omega), nI_clamp (show n < 2 ^ 31 by omega)]
    have hg := hJ.gone (l := l) n h6
    by_cases c : z_hd I' B' l n = true
    · rw [if_pos c]; exact z_b_t ⟨hP, hg.2 c⟩
    · rw [if_neg c]; exact z_b_f (fun z => c (hg.1 z.2))
  · exact ⟨_, _, rfl, hJ.set21 _, by rw [z_sM_s, z_upd_s, z_go_1 hP], fun z => absurd z (by decide), hM', hf⟩
theorem rL_rating (hM : z_Mo G F A6 M w) (hJ : z_J I N O B M) (x y : Int32) (hq : z_Qrating x y I N O B k r I' N' O' B') : z_M G zX6_rating 2 [.ref (A6 22 0 0), .int x, .int y] w 0 0 (z_kr G F A6 w k r I' N' O' B') z_nx := by
  refine z_M.mono (mX6_rating hM hJ.n6.1 hJ.n6.2.1 x y) (fun v w' h => ?_) (fun _ _ h => h)
  have h8 := hJ.n6.2.1
  obtain ⟨rfl, hM', hf⟩ := h
  rcases hq with ⟨p, t, hp, rfl, ht, rfl, rfl, rfl, rfl, rfl, rfl, rfl⟩ | ⟨⟨rfl, rfl, rfl, rfl⟩, ⟨hP, rfl⟩ | ⟨hP, hP2, rfl⟩ | ⟨hP, hP2, hP3, rfl⟩⟩
  · have a1 : z_rg (nI p) (N' 6 0) := ⟨p, hp, rfl⟩
    have a2 : z_rg (nI t) 5 := ⟨t, ht, rfl⟩
    refine ⟨_, _, rfl, hJ.set21 _, by rw [z_sM_s, z_upd_s, z_go_0 a1 a2 trivial], fun _ => ?_, hM', hf⟩
    rw [z_if_t ⟨a1, a2⟩, nI_clamp (show p < 2 ^ 31 by omega), nI_clamp (show t < 2 ^ 31 by omega)]
    exact ((hJ.2.2.1.2.1 p (by rw [← hJ.1.1]; exact hp)).2.2.1 t ht).1
  · exact ⟨_, _, rfl, hJ.set21 _, by rw [z_sM_s, z_upd_s, z_go_1 hP], fun z => absurd z (by decide), hM', hf⟩
  · exact ⟨_, _, rfl, hJ.set21 _, by rw [z_sM_s, z_upd_s, z_go_2 hP hP2], fun z => absurd z (by decide), hM', hf⟩
  · exact absurd trivial hP3
theorem rL_mean (hM : z_Mo G F A6 M w) (hJ : z_J I N O B M) (x y : Int32) {r : UInt32} (hq : z_Qf x y I N O B k r) : z_M G zX6_mean 2 [.ref (A6 22 0 0), .int x, .int y] w 0 0 (fun v w' => ∃ b M', v = some (.float b) ∧ (k = 0 → b = r) ∧ z_J I N O B M' ∧ M' 21 0 = k ∧ z_Mo G F A6 M' w' ∧ z_fr F w w') z_nx := by
  refine z_M.mono (mX6_mean hM x y (fun n l h1 h6 hl hne => ?_)) (fun v w' h => ?_) (fun _ _ h => h)
  · obtain ⟨a, b, -⟩ := hJ.2.2.2.2.2.1 n l h1 h6 hl
    rw [a] at hne
    rw [a, b]
    exact hJ.hfl n l h1 h6 hl hne
  · obtain ⟨rfl, hM', hf⟩ := h
    rcases hq with ⟨hP, rfl, rfl⟩ | ⟨hP, rfl⟩
    · refine ⟨_, _, rfl, fun _ => ?_, hJ.set21 _, by rw [z_sM_s, z_upd_s, z_go_0 hP trivial trivial], hM', hf⟩
      obtain ⟨l, n, h1, h6, hl, rfl, rfl⟩ := id hP
      have hp4 := z_p4 n (by omega)
      rw [nI_clamp (show l < 2 ^ 31 by omega), nI_clamp (show n < 2 ^ 31 by omega)]
      obtain ⟨a, b, -⟩ := hJ.2.2.2.2.2.1 n l h1 h6 hl
      rw [a, b]
      by_cases c : B n l = true ∧ I 11 n l ≠ 0
      · rw [if_pos c, z_if_t ⟨hP, c.2⟩]
      · rw [if_neg c, z_if_f (fun z => c ⟨?_, z.2⟩)]
        cases hB : B n l with
        | true => rfl
        | false => exact absurd (hJ.2.1 n l hB).1 z.2
    · exact ⟨_, _, rfl, fun z => absurd z (by decide), hJ.set21 _, by rw [z_sM_s, z_upd_s, z_go_1 hP], hM', hf⟩
end RFS

