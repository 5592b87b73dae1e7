/-! the reference's pairs, as a call -/
theorem z_so_20 {M : z_TM} {n : Nat} {p : Nat} : ∀ k, p < k → z_so M n k 20 p = -1
  | 0, h => by omega
  | k + 1, h => by
    rw [z_so, z_sM_s]
    by_cases q : p = k
    · rw [q, z_upd_s]
    · rw [z_upd_n _ _ q, z_sM_f _ _ _ (by decide)]
      exact z_so_20 k (by omega)
section PR8
variable {G : z_G} {F : Nat → Prop} {A : z_TA} {M : z_TM} {w : z_W}
theorem mX6_pairs (hM : z_Mo G F A M w) (h6 : M 6 0 = 0 ∨ M 6 0 = 1) {e : Nat} (he : M 5 0 - M 6 0 = nI e) (h60 : e ≤ 60) {n : Nat} {od : Nat → Nat} (h0 : M 0 0 = nI n) (hn : n ≤ 8) (ho : ∀ i, i < n → z_so M n n 19 i = nI (od i) ∧ od i < n) : z_M G zX6_pairs 2 [.ref (A 22 0 0)] w 0 0 (fun v w' => v = none ∧ z_fr F w w' ∧ ∃ M', z_Mo G F A M' w' ∧ (∀ f, f ≠ 19 → f ≠ 20 → M' f = M f) ∧ ∀ p, p < n → M' 20 p = z_fi (z_pp (fun a b => z_mt M e (nI a) (nI b)) od n n p)) z_nx := by
  have ef : ∀ f, f ≠ 19 → f ≠ 20 → z_so M n n f = M f := fun f a b => z_so_f a b n
  have emt : ∀ a b, z_mt (z_so M n n) e a b = z_mt M e a b := fun a b => by
    unfold z_mt
    rw [ef 8 (by decide) (by decide), ef 9 (by decide) (by decide)]
  have emt2 : (fun a b => z_mt (z_so M n n) e (nI a) (nI b)) = (fun a b => z_mt M e (nI a) (nI b)) := by
    funext a b
    exact emt _ _
  refine z_M.of (by decide +kernel) rfl (by intro v hv; simp only [List.mem_cons, List.not_mem_nil, or_false] at hv; rcases hv with rfl <;> first | rfl | exact z_isr_cat (z_isr_rf _)) (Nat.le_of_ble_eq_true rfl) ?_
  show z_E _ zX6_pairs _ _ 0 [some (.ref (A 22 0 0)), none, none, none, none, none, none] [] _ _ _
  refine z_aload_n (pc := 0) dX6_pairs_0 rfl (by first | rfl | exact z_isr_rf _) ?_
  refine z_callV (pc := 1) (mX6_sorts hM h0 hn) dX6_pairs_1 cwX6_144 okX6_sorts rfl (hM.k22) rfl rfl (by omega) rfl (Nat.le_of_ble_eq_true rfl) (by omega) (by omega) (fun _ _ h => h.elim) (fun v wN hN => ?_)
  obtain ⟨rfl, hM2, hf2⟩ := hN
  refine z_iconst_0 (pc := 4) dX6_pairs_4 ?_
  refine z_istore1 (pc := 5) dX6_pairs_5 ?_
  refine iX6_pairs (M := z_so M n n) (w0 := w) (e := e) (n := n) (od := od) (by rw [ef 6 (by decide) (by decide)]; exact h6) (by rw [ef 5 (by decide) (by decide), ef 6 (by decide) (by decide)]; exact he) h60 (by rw [ef 0 (by decide) (by decide)]; exact h0) hn ho (fun M' w' x1 x2 x3 x4 x5 x6 hM3 hf3 hk3 hP => ?_) n 0 rfl (Nat.zero_le _) (z_so M n n) _ _ _ _ _ _ hM2 hf2 (fun _ _ => rfl) (fun p hp => ⟨?_, fun f z => by cases z⟩)
  · rw [emt2] at hP
    refine z_vret (pc := 172) dX6_pairs_172 rfl (⟨rfl, hf3, M', hM3, fun f a b => (hk3 f b).trans (ef f a b), hP⟩)
  · rw [z_so_20 n hp]
    rfl
end PR8

