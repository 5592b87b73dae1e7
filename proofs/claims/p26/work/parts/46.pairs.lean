/-! pairing told purely -/
def z_bf (S : Nat → Int32) (a b : Nat) : Prop := S b < S a ∨ (S a = S b ∧ a < b)
theorem z_bf_i {S : Nat → Int32} {a b : Nat} : z_bf S a b ↔ ((S b).toInt < (S a).toInt ∨ ((S a).toInt = (S b).toInt ∧ a < b)) := by
  unfold z_bf
  rw [Int32.lt_iff_toInt_lt, Int32.toInt_inj]
theorem z_bf_as {S : Nat → Int32} {a b : Nat} (h : z_bf S a b) (h' : z_bf S b a) : False := by
  rw [z_bf_i] at h h'
  omega
theorem z_bf_ir {S : Nat → Int32} {a : Nat} (h : z_bf S a a) : False := z_bf_as h h
theorem z_bf_tr {S : Nat → Int32} {a b c : Nat} (h : z_bf S a b) (h' : z_bf S b c) : z_bf S a c := by
  rw [z_bf_i] at h h' ⊢
  omega
theorem z_bf_tt {S : Nat → Int32} {a b : Nat} (h : a ≠ b) : z_bf S a b ∨ z_bf S b a := by
  rw [z_bf_i, z_bf_i]
  omega
theorem z_ite_c {α : Type} {P Q : Prop} (h : P ↔ Q) {a b : α} : @ite _ P (Classical.propDecidable P) a b = @ite _ Q (Classical.propDecidable Q) a b := by
  have e : P = Q := propext h
  subst e
  rfl
noncomputable def z_fo (I : z_TI) (C : Nat → Prop) : Nat → Option Nat
  | 0 => none
  | k + 1 => @ite _ (C k ∧ ah I k (z_fo I C k)) (Classical.propDecidable _) (some k) (z_fo I C k)
theorem z_fo_n {I : z_TI} {C : Nat → Prop} : ∀ K, z_fo I C K = none → ∀ b, b < K → ¬ C b
  | 0, _, b, hb => absurd hb (Nat.not_lt_zero _)
  | K + 1, h, b, hb => by
    rw [z_fo] at h
    by_cases q : C K ∧ ah I K (z_fo I C K)
    · rw [if_pos q] at h; cases h
    · rw [if_neg q] at h
      by_cases e : b = K
      · rw [e]
        exact fun z => q ⟨z, by rw [h]; trivial⟩
      · exact z_fo_n K h b (by omega)
theorem z_fo_s {I : z_TI} {C : Nat → Prop} {a : Nat} : ∀ K, z_fo I C K = some a → a < K ∧ C a ∧ ∀ b, b < K → C b → b = a ∨ z_bf (fun p => I 2 p 0) a b
  | 0, h => by cases h
  | K + 1, h => by
    rw [z_fo] at h
    by_cases q : C K ∧ ah I K (z_fo I C K)
    · rw [if_pos q] at h
      have e0 : K = a := Option.some.inj h
      rw [← e0]
      refine ⟨Nat.lt_succ_self _, q.1, fun b hb hC => ?_⟩
      by_cases e : b = K
      · exact Or.inl e
      · refine Or.inr ?_
        cases hf : z_fo I C K with
        | none => exact absurd hC (z_fo_n K hf b (by omega))
        | some a' =>
          have q2 := q.2
          rw [hf] at q2
          have q3 : z_bf (fun p => I 2 p 0) K a' := q2
          rcases (z_fo_s K hf).2.2 b (by omega) hC with z | z
          · rw [z]; exact q3
          · exact z_bf_tr q3 z
    · rw [if_neg q] at h
      have ih := z_fo_s K h
      refine ⟨by omega, ih.2.1, fun b hb hC => ?_⟩
      by_cases e : b = K
      · rw [e] at hC
        rw [h] at q
        rcases z_bf_tt (S := fun p => I 2 p 0) (a := a) (b := K) (by omega) with z | z
        · exact Or.inr (by rw [e]; exact z)
        · exact absurd ⟨hC, z⟩ q
      · exact ih.2.2 b (by omega) hC
theorem z_fu_e {I : z_TI} {N : z_TN} {O : z_TO} : ∀ K, z_fu I N O K = z_fo I (fun k => k < N 6 0 ∧ O 1 k = none) K
  | 0 => rfl
  | K + 1 => by
    rw [z_fu, z_fo, z_fu_e K]
    exact z_ite_c and_assoc.symm
theorem z_pf1_e {I : z_TI} {N : z_TN} {O : z_TO} {a : Nat} : ∀ K, z_pf1 I N O a K = z_fo I (fun k => k < N 6 0 ∧ k ≠ a ∧ O 1 k = none) K
  | 0 => rfl
  | K + 1 => by
    rw [z_pf1, z_fo, z_pf1_e K]
    exact z_ite_c (by simp only [and_assoc])
theorem z_pf2_e {I : z_TI} {N : z_TN} {O : z_TO} {a : Nat} : ∀ K, z_pf2 I N O a K = z_fo I (fun k => k < N 6 0 ∧ k ≠ a ∧ O 1 k = none ∧ I 5 a k = 0) K
  | 0 => rfl
  | K + 1 => by
    rw [z_pf2, z_fo, z_pf2_e K]
    exact z_ite_c (by simp only [and_assoc])
def z_cu (P : Nat → Option Nat) : Nat → Nat
  | 0 => 0
  | k + 1 => z_cu P k + (if (P k).isNone then 1 else 0)
theorem z_cu_le (P : Nat → Option Nat) : ∀ n, z_cu P n ≤ n
  | 0 => Nat.le_refl _
  | n + 1 => by
    have := z_cu_le P n
    unfold z_cu
    split <;> omega
theorem z_cu_up {P Q : Nat → Option Nat} {a b : Nat} (ha : P a = none) (hq : Q a = some b) (ho : ∀ p, p ≠ a → Q p = P p) : ∀ n, (n ≤ a → z_cu Q n = z_cu P n) ∧ (a < n → z_cu Q n + 1 = z_cu P n)
  | 0 => ⟨fun _ => rfl, fun h => absurd h (Nat.not_lt_zero _)⟩
  | n + 1 => by
    have ih := z_cu_up ha hq ho n
    unfold z_cu
    by_cases e : n = a
    · refine ⟨fun h => by omega, fun _ => ?_⟩
      have := ih.1 (by omega)
      rw [e, ha, hq]
      rw [e] at this
      simp [this]
    · rw [ho n e]
      refine ⟨fun h => ?_, fun h => ?_⟩
      · have := ih.1 (by omega)
        omega
      · have := ih.2 (by omega)
        omega
def z_up2 (P : Nat → Option Nat) (a b : Nat) : Nat → Option Nat := fun i => if i = b then some a else if i = a then some b else P i
theorem z_cu_2 {P : Nat → Option Nat} {a b n : Nat} (hab : a ≠ b) (ha : P a = none) (hb : P b = none) (han : a < n) (hbn : b < n) : z_cu (z_up2 P a b) n + 2 = z_cu P n := by
  have h1 := (z_cu_up (P := P) (Q := fun i => if i = a then some b else P i) (a := a) (b := b) ha (if_pos rfl) (fun p hp => if_neg hp) n).2 han
  have h2 := (z_cu_up (P := fun i => if i = a then some b else P i) (Q := z_up2 P a b) (a := b) (b := a) (by rw [if_neg (Ne.symm hab)]; exact hb) (by unfold z_up2; exact if_pos rfl) (fun p hp => by unfold z_up2; rw [if_neg hp]) n).2 hbn
  omega
section PRP
variable {I : z_TI} {N : z_TN} {O : z_TO}
/-- partners are partners of each other -/
def z_iv2 (n : Nat) (P : Nat → Option Nat) : Prop := ∀ p q, p < n → P p = some q → q < n ∧ q ≠ p ∧ P q = some p
theorem z_sO2 (O : z_TO) (a b : Nat) : (z_sO (z_sO O 1 a (some b)) 1 b (some a)) 1 = z_up2 (O 1) a b := by
  funext i
  unfold z_sO z_up2
  rw [if_pos rfl, if_pos rfl]
theorem z_iv2.up {n : Nat} {P : Nat → Option Nat} (h : z_iv2 n P) {a b : Nat} (ha : a < n) (hb : b < n) (hab : b ≠ a) (pa : P a = none) (pb : P b = none) : z_iv2 n (z_up2 P a b) := by
  intro p q hp hq
  unfold z_up2 at hq ⊢
  by_cases e1 : p = b
  · rw [if_pos e1] at hq
    cases hq
    refine ⟨ha, fun e => hab (e1.symm.trans e.symm), ?_⟩
    rw [if_neg (Ne.symm hab), if_pos rfl, e1]
  · rw [if_neg e1] at hq
    by_cases e2 : p = a
    · rw [if_pos e2] at hq
      cases hq
      refine ⟨hb, fun e => hab (e.trans e2), ?_⟩
      rw [if_pos rfl, e2]
    · rw [if_neg e2] at hq
      obtain ⟨h1, h2, h3⟩ := h p q hp hq
      have q1 : q ≠ b := fun e => by rw [e, pb] at h3; cases h3
      have q2 : q ≠ a := fun e => by rw [e, pa] at h3; cases h3
      rw [if_neg q1, if_neg q2]
      exact ⟨h1, h2, h3⟩
/-- no one is left, or one alone -/
theorem z_cu_0 {P : Nat → Option Nat} : ∀ n, (∀ p, p < n → P p ≠ none) → z_cu P n = 0
  | 0, _ => rfl
  | n + 1, h => by
    unfold z_cu
    rw [z_cu_0 n (fun p hp => h p (by omega))]
    cases q : P n with
    | none => exact absurd q (h n (by omega))
    | some x => rfl
theorem z_cu_1 {P : Nat → Option Nat} {a : Nat} : ∀ n, (∀ p, p < n → p ≠ a → P p ≠ none) → z_cu P n ≤ 1
  | 0, _ => Nat.zero_le _
  | n + 1, h => by
    unfold z_cu
    by_cases e : n = a
    · rw [z_cu_0 n (fun p hp => h p (by omega) (by omega))]
      split <;> omega
    · have := z_cu_1 n (fun p hp hpa => h p (by omega) hpa)
      cases q : P n with
      | none => exact absurd q (h n (by omega) e)
      | some x => simpa using this
theorem z_pfn {a : Nat} (h : z_pf I N O a = none) {p : Nat} (hp : p < N 6 0) (h8 : N 6 0 ≤ 8) (hpa : p ≠ a) : O 1 p ≠ none := by
  have h1 : z_pf1 I N O a 8 = none := by
    unfold z_pf at h
    cases h2 : z_pf2 I N O a 8 with
    | none => rw [h2] at h; exact h
    | some b => rw [h2] at h; cases h
  rw [z_pf1_e] at h1
  exact fun e => z_fo_n 8 h1 p (by omega) ⟨hp, hpa, e⟩
/-- what a pairing leaves -/
theorem z_pr_ok (h8 : N 6 0 ≤ 8) : ∀ (m : Nat) (O : z_TO), z_iv2 (N 6 0) (O 1) → z_cu (O 1) (N 6 0) ≤ 2 * m + 1 → z_iv2 (N 6 0) (z_pr I N m O 1) ∧ z_cu (z_pr I N m O 1) (N 6 0) ≤ 1 ∧ z_cu (z_pr I N m O 1) (N 6 0) % 2 = z_cu (O 1) (N 6 0) % 2 ∧ ∀ p, O 1 p ≠ none → z_pr I N m O 1 p = O 1 p
  | 0, O, h, hc => ⟨h, (show z_cu (O 1) (N 6 0) ≤ 1 from hc), rfl, fun _ _ => rfl⟩
  | m + 1, O, h, hc => by
    rw [z_pr]
    cases hfu : z_fu I N O 8 with
    | none =>
      dsimp only
      refine ⟨h, ?_, rfl, fun _ _ => rfl⟩
      rw [z_fu_e] at hfu
      rw [z_cu_0 (N 6 0) (fun p hp e => z_fo_n 8 hfu p (by omega) ⟨hp, e⟩)]
      omega
    | some a =>
      dsimp only
      have ha := z_fu_lt hfu
      cases hpf : z_pf I N O a with
      | none =>
        dsimp only
        exact ⟨h, z_cu_1 (a := a) (N 6 0) (fun p hp hpa => z_pfn hpf hp h8 hpa), rfl, fun _ _ => rfl⟩
      | some b =>
        dsimp only
        have hb := z_pf_lt hpf
        have hcu := z_cu_2 (P := O 1) (Ne.symm hb.2.1) ha.2 hb.2.2 ha.1 hb.1
        have e := z_sO2 O a b
        have ih := z_pr_ok h8 m (z_sO (z_sO O 1 a (some b)) 1 b (some a)) (by rw [e]; exact h.up ha.1 hb.1 hb.2.1 ha.2 hb.2.2) (by rw [e]; omega)
        rw [e] at ih
        refine ⟨ih.1, ih.2.1, by rw [ih.2.2.1]; omega, fun p hp => ?_⟩
        have q1 : p ≠ b := fun e => hp (by rw [e]; exact hb.2.2)
        have q2 : p ≠ a := fun e => hp (by rw [e]; exact ha.2)
        have e2 : z_up2 (O 1) a b p = O 1 p := by unfold z_up2; rw [if_neg q1, if_neg q2]
        rw [ih.2.2.2 p (by rw [e2]; exact hp), e2]
theorem z_oc1 (O : z_TO) (p : Nat) (hp : p < 8) : z_oc O 8 1 p = none := by
  show (if 1 = 1 then (fun i => if i < 8 then none else O 1 i) else O 1) p = none
  rw [if_pos rfl]
  exact if_pos hp
theorem z_cu_n {P : Nat → Option Nat} : ∀ n, (∀ p, p < n → P p = none) → z_cu P n = n
  | 0, _ => rfl
  | n + 1, h => by
    unfold z_cu
    rw [z_cu_n n (fun p hp => h p (by omega)), h n (by omega)]
    rfl
theorem z_pt_ok (h8 : N 6 0 ≤ 8) : z_iv2 (N 6 0) (z_pt I N O 1) ∧ z_cu (z_pt I N O 1) (N 6 0) = N 6 0 % 2 := by
  have e0 : z_cu (z_oc O 8 1) (N 6 0) = N 6 0 := z_cu_n _ (fun p hp => z_oc1 O p (by omega))
  have h := z_pr_ok (I := I) h8 4 (z_oc O 8) (fun p q hp hq => by rw [z_oc1 O p (by omega)] at hq; cases hq) (by rw [e0]; omega)
  rw [e0] at h
  refine ⟨h.1, ?_⟩
  have h2 := h.2.1
  have h3 := h.2.2.1
  have h2' : z_cu (z_pt I N O 1) (N 6 0) ≤ 1 := h2
  have h3' : z_cu (z_pt I N O 1) (N 6 0) % 2 = N 6 0 % 2 := h3
  omega
/-- the foremost one isn't alone, where there are two -/
theorem z_pt_first (h8 : N 6 0 ≤ 8) (h2 : 2 ≤ N 6 0) {f : Nat} (hf : f < N 6 0) (hb : ∀ b, b < N 6 0 → b = f ∨ z_bf (fun p => I 2 p 0) f b) : z_pt I N O 1 f ≠ none := by
  show z_pr I N 4 (z_oc O 8) 1 f ≠ none
  rw [z_pr]
  have hfu : z_fu I N (z_oc O 8) 8 = some f := by
    rw [z_fu_e]
    have hC : f < N 6 0 ∧ z_oc O 8 1 f = none := ⟨hf, z_oc1 O f (by omega)⟩
    cases hq : z_fo I (fun k => k < N 6 0 ∧ z_oc O 8 1 k = none) 8 with
    | none => exact absurd hC (z_fo_n 8 hq f (by omega))
    | some a =>
      have ha := z_fo_s 8 hq
      rcases ha.2.2 f (by omega) hC with z | z
      · rw [z]
      · rcases hb a ha.2.1.1 with y | y
        · rw [y]
        · exact (z_bf_as y z).elim
  rw [hfu]
  dsimp only
  cases hpf : z_pf I N (z_oc O 8) f with
  | none =>
    have : ∃ p, p < N 6 0 ∧ p ≠ f := by
      by_cases q : f = 0
      · exact ⟨1, by omega, by omega⟩
      · exact ⟨0, by omega, by omega⟩
    obtain ⟨p, hp, hpf2⟩ := this
    exact absurd (z_oc1 O p (by omega)) (z_pfn hpf hp h8 hpf2)
  | some b =>
    dsimp only
    have hbb := z_pf_lt hpf
    have e := z_sO2 (z_oc O 8) f b
    have e0 : z_cu (z_oc O 8 1) (N 6 0) = N 6 0 := z_cu_n _ (fun p hp => z_oc1 O p (by omega))
    have hcu := z_cu_2 (P := z_oc O 8 1) (Ne.symm hbb.2.1) (z_oc1 O f (by omega)) hbb.2.2 hf hbb.1
    have hi : z_iv2 (N 6 0) (z_oc O 8 1) := fun p q hp hq => by rw [z_oc1 O p (by omega)] at hq; cases hq
    have ih := z_pr_ok (I := I) h8 3 (z_sO (z_sO (z_oc O 8) 1 f (some b)) 1 b (some f)) (by rw [e]; exact hi.up hf hbb.1 hbb.2.1 (z_oc1 O f (by omega)) hbb.2.2) (by rw [e]; omega)
    have e3 : z_up2 (z_oc O 8 1) f b f = some b := by
      unfold z_up2
      rw [if_neg (Ne.symm hbb.2.1), if_pos rfl]
    rw [ih.2.2.2 f (by rw [e, e3]; exact fun z => nomatch z), e, e3]
    exact fun z => nomatch z
/-- the partners rest on the tables alone, not on who was paired before -/
theorem z_fu_c {O O' : z_TO} (h : ∀ p, p < N 6 0 → O' 1 p = O 1 p) : ∀ K, z_fu I N O' K = z_fu I N O K
  | 0 => rfl
  | K + 1 => by
    rw [z_fu, z_fu, z_fu_c h K]
    refine z_ite_c ⟨fun z => ⟨z.1, ?_, z.2.2⟩, fun z => ⟨z.1, ?_, z.2.2⟩⟩
    · rw [← h K z.1]; exact z.2.1
    · rw [h K z.1]; exact z.2.1
theorem z_pf1_c {O O' : z_TO} {a : Nat} (h : ∀ p, p < N 6 0 → O' 1 p = O 1 p) : ∀ K, z_pf1 I N O' a K = z_pf1 I N O a K
  | 0 => rfl
  | K + 1 => by
    rw [z_pf1, z_pf1, z_pf1_c h K]
    refine z_ite_c ⟨fun z => ⟨z.1, z.2.1, ?_, z.2.2.2⟩, fun z => ⟨z.1, z.2.1, ?_, z.2.2.2⟩⟩
    · rw [← h K z.1]; exact z.2.2.1
    · rw [h K z.1]; exact z.2.2.1
theorem z_pf2_c {O O' : z_TO} {a : Nat} (h : ∀ p, p < N 6 0 → O' 1 p = O 1 p) : ∀ K, z_pf2 I N O' a K = z_pf2 I N O a K
  | 0 => rfl
  | K + 1 => by
    rw [z_pf2, z_pf2, z_pf2_c h K]
    refine z_ite_c ⟨fun z => ⟨z.1, z.2.1, ?_, z.2.2.2⟩, fun z => ⟨z.1, z.2.1, ?_, z.2.2.2⟩⟩
    · rw [← h K z.1]; exact z.2.2.1
    · rw [h K z.1]; exact z.2.2.1
theorem z_pr_c : ∀ (m : Nat) (O O' : z_TO), (∀ p, p < N 6 0 → O' 1 p = O 1 p) → ∀ p, p < N 6 0 → z_pr I N m O' 1 p = z_pr I N m O 1 p
  | 0, _, _, h, p, hp => h p hp
  | m + 1, O, O', h, p, hp => by
    rw [z_pr, z_pr, z_fu_c h 8]
    cases hfu : z_fu I N O 8 with
    | none => exact h p hp
    | some a =>
      dsimp only
      have e : z_pf I N O' a = z_pf I N O a := by
        unfold z_pf
        rw [z_pf2_c h 8, z_pf1_c h 8]
      rw [e]
      cases hpf : z_pf I N O a with
      | none => exact h p hp
      | some b =>
        dsimp only
        refine z_pr_c m _ _ (fun p hp => ?_) p hp
        rw [z_sO2, z_sO2]
        unfold z_up2
        by_cases q1 : p = b
        · rw [if_pos q1, if_pos q1]
        · rw [if_neg q1, if_neg q1]
          by_cases q2 : p = a
          · rw [if_pos q2, if_pos q2]
          · rw [if_neg q2, if_neg q2]; exact h p hp
theorem z_pt_c (h8 : N 6 0 ≤ 8) (O O' : z_TO) {p : Nat} (hp : p < N 6 0) : z_pt I N O' 1 p = z_pt I N O 1 p :=
  z_pr_c 4 (z_oc O 8) (z_oc O' 8) (fun p hp => by rw [z_oc1 _ _ (by omega), z_oc1 _ _ (by omega)]) p hp
end PRP

