/-! the law's world: the class, the reference, the two rows of answers -/
def z_f6 (A6 : z_TA) (qo qd : Nat) (a : Nat) : Prop := (∃ k, k ∈ z_mtg ∧ a = A6 k 0 0) ∨ a = qo ∨ a = qd
def z_f5 (A : z_TA) (N : z_TN) (B : z_TB) (qo qd : Nat) (a : Nat) : Prop := (∃ k i j, z_lv N B k i j ∧ a = A k i j) ∨ a = qo ∨ a = qd
def z_LW (G : z_G) (A : z_TA) (I : z_TI) (N : z_TN) (O : z_TO) (B : z_TB) (A6 : z_TA) (M : z_TM) (qo qd : Nat) (vo : Nat → Int64) (vd : Nat → UInt64) (w : z_W) : Prop :=
  z_C G (z_f6 A6 qo qd) A I N O B w ∧ z_Mo G (z_f5 A N B qo qd) A6 M w ∧ w qo = some (.inl (G.2.1 2, 1, .inr (.inl vo))) ∧ w qd = some (.inl (G.2.1 3, 1, .inr (.inr (.inr (.inl vd))))) ∧ qo ≠ qd
section LWS
variable {G : z_G} {A A' : z_TA} {I I' : z_TI} {N N' : z_TN} {O O' : z_TO} {B B' : z_TB} {A6 : z_TA} {M M' : z_TM} {qo qd : Nat} {vo : Nat → Int64} {vd : Nat → UInt64} {w w' : z_W}
theorem z_LW.cls (h : z_LW G A I N O B A6 M qo qd vo vd w) (hC : z_C G (z_f6 A6 qo qd) A' I' N' O' B' w') (hf : z_fr (z_f6 A6 qo qd) w w') : z_LW G A' I' N' O' B' A6 M qo qd vo vd w' := by
  obtain ⟨h1, h2, h3, h4, h5⟩ := h
  have e3 := (hf qo (Or.inr (Or.inl rfl))).trans h3
  have e4 := (hf qd (Or.inr (Or.inr rfl))).trans h4
  refine ⟨hC, ⟨fun k i j hl => ?_, h2.2.1, fun a ha => ?_⟩, e3, e4, h5⟩
  · obtain ⟨hk, rfl, rfl⟩ := hl
    have h6 := h2.1 k 0 0 ⟨hk, rfl, rfl⟩
    refine ⟨(hf _ (Or.inl ⟨k, hk, rfl⟩)).trans h6.1, ?_⟩
    rintro (⟨k', i', j', hl', e⟩ | e | e)
    · exact (hC.1 k' i' j' hl').2 (Or.inl ⟨k, hk, e.symm⟩)
    · exact h6.2 (Or.inr (Or.inl e))
    · exact h6.2 (Or.inr (Or.inr e))
  · rcases ha with ⟨k', i', j', hl', e⟩ | e | e
    · rw [e, z_tw.at hC hl']; exact fun z => nomatch z
    · rw [e, e3]; exact fun z => nomatch z
    · rw [e, e4]; exact fun z => nomatch z
theorem z_LW.ref (h : z_LW G A I N O B A6 M qo qd vo vd w) (hM : z_Mo G (z_f5 A N B qo qd) A6 M' w') (hf : z_fr (z_f5 A N B qo qd) w w') : z_LW G A I N O B A6 M' qo qd vo vd w' := by
  obtain ⟨h1, h2, h3, h4, h5⟩ := h
  have e3 := (hf qo (Or.inr (Or.inl rfl))).trans h3
  have e4 := (hf qd (Or.inr (Or.inr rfl))).trans h4
  refine ⟨⟨fun k i j hl => ⟨(hf _ (Or.inl ⟨k, i, j, hl, rfl⟩)).trans (h1.1 k i j hl).1, (h1.1 k i j hl).2⟩, h1.2.1, fun a ha => ?_⟩, hM, e3, e4, h5⟩
  rcases ha with ⟨k', hk', e⟩ | e | e
  · rw [e, z_tw.at hM (k := k') (i := 0) (j := 0) ⟨hk', rfl, rfl⟩]; exact fun z => nomatch z
  · rw [e, e3]; exact fun z => nomatch z
  · rw [e, e4]; exact fun z => nomatch z
theorem z_LW.upd (h : z_LW G A I N O B A6 M qo qd vo vd w) {q : Nat} {e : va_E} (hq : q = qo ∨ q = qd) : z_C G (z_f6 A6 qo qd) A I N O B (z_up w q e) ∧ z_Mo G (z_f5 A N B qo qd) A6 M (z_up w q e) := by
  obtain ⟨h1, h2, h3, h4, h5⟩ := h
  have n1 : ∀ k i j, z_lv N B k i j → A k i j ≠ q := fun k i j hl z => (h1.1 k i j hl).2 (Or.inr (by rw [z]; exact hq))
  have n2 : ∀ k i j, z_mlv k i j → A6 k i j ≠ q := fun k i j hl z => (h2.1 k i j hl).2 (Or.inr (by rw [z]; exact hq))
  have n3 : ∀ a, w a ≠ none → z_up w q e a ≠ none := fun a ha => by
    by_cases z : a = q
    · rw [z, z_upS]; exact fun z => nomatch z
    · rw [z_upN _ _ z]; exact ha
  exact ⟨h1.keep (fun k i j hl => z_upN _ _ (n1 k i j hl)) (fun a ha => n3 a (h1.2.2 a ha)), h2.keep (fun k i j hl => z_upN _ _ (n2 k i j hl)) (fun a ha => n3 a (h2.2.2 a ha))⟩
theorem z_LW.out (h : z_LW G A I N O B A6 M qo qd vo vd w) (vo' : Nat → Int64) : z_LW G A I N O B A6 M qo qd vo' vd (z_up w qo (.inl (G.2.1 2, 1, .inr (.inl vo')))) :=
  ⟨(h.upd (Or.inl rfl)).1, (h.upd (Or.inl rfl)).2, z_upS _ _ _, (z_upN _ _ (Ne.symm h.2.2.2.2)).trans h.2.2.2.1, h.2.2.2.2⟩
theorem z_LW.outD (h : z_LW G A I N O B A6 M qo qd vo vd w) (vd' : Nat → UInt64) : z_LW G A I N O B A6 M qo qd vo vd' (z_up w qd (.inl (G.2.1 3, 1, .inr (.inr (.inr (.inl vd')))))) :=
  ⟨(h.upd (Or.inr rfl)).1, (h.upd (Or.inr rfl)).2, (z_upN _ _ h.2.2.2.2).trans h.2.2.1, z_upS _ _ _, h.2.2.2.2⟩
end LWS
abbrev z_TQ : Type := Int32 → Int32 → z_TI → z_TN → z_TO → z_TB → Prop
/-- what a wrapper gives: k the exception, r the answer, the class's state behind -/
def z_kq (G : z_G) (A A6 : z_TA) (M : z_TM) (qo qd : Nat) (vd : Nat → UInt64) (QK : z_TQ) : Option Value → z_W → Prop := fun v w' => ∃ k r A' I' N' O' B' vo', v = some (.int k) ∧ QK k r I' N' O' B' ∧ (k = 0 → vo' 0 = r.toInt64) ∧ A' 0 0 0 = A 0 0 0 ∧ z_LW G A' I' N' O' B' A6 M qo qd vo' vd w'
/-- what the reference's call gives beside it -/
def z_kr (G : z_G) (F : Nat → Prop) (A6 : z_TA) (w : z_W) (k r : Int32) (I' : z_TI) (N' : z_TN) (O' : z_TO) (B' : z_TB) : Option Value → z_W → Prop := fun v w' => ∃ b M', v = some (.int b) ∧ z_J I' N' O' B' M' ∧ M' 21 0 = k ∧ (k = 0 → b = r) ∧ z_Mo G F A6 M' w' ∧ z_fr F w w'
/-- a call that only asks, with one condition -/
def z_Qp (P : Prop) (val : Int32) (I : z_TI) (N : z_TN) (O : z_TO) (B : z_TB) : z_TQ := fun k r I' N' O' B' => (I' = I ∧ N' = N ∧ O' = O ∧ B' = B) ∧ ((P ∧ k = 0 ∧ r = val) ∨ (¬ P ∧ k = 1))
theorem z_kr_p {G : z_G} {F : Nat → Prop} {A6 : z_TA} {M : z_TM} {w : z_W} {P : Prop} {val val' : Int32} {I I' : z_TI} {N N' : z_TN} {O O' : z_TO} {B B' : z_TB} {k r : Int32} (hJ : z_J I N O B M) (hq : z_Qp P val I N O B k r I' N' O' B') (hv : P → val' = val) : ∀ v w', z_sm G F A6 (z_sM M 21 0 (z_go P True True)) w (some (.int (z_if P val' 0))) v w' → z_kr G F A6 w k r I' N' O' B' v w' := by
  rintro v w' ⟨rfl, hM, hf⟩
  obtain ⟨⟨rfl, rfl, rfl, rfl⟩, ⟨hP, rfl, rfl⟩ | ⟨hP, rfl⟩⟩ := hq
  · exact ⟨_, _, rfl, hJ.set21 _, by rw [z_sM_s, z_upd_s, z_go_0 hP trivial trivial], fun _ => by rw [z_if_t hP, hv hP], hM, hf⟩
  · exact ⟨_, _, rfl, hJ.set21 _, by rw [z_sM_s, z_upd_s, z_go_1 hP], fun z => absurd z (by decide), hM, hf⟩

