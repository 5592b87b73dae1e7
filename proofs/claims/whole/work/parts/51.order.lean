/-! the two ways of pairing tell one and the same -/
theorem z_pig : ∀ (n : Nat) (f : Nat → Nat), (∀ i, i < n → f i < n) → (∀ i j, i < n → j < n → f i = f j → i = j) → ∀ j, j < n → ∃ i, i < n ∧ f i = j
  | 0, _, _, _, j, h => absurd h (Nat.not_lt_zero _)
  | n + 1, f, h1, h2, j, hj => by
    by_cases hn : f n = n
    · by_cases hjn : j = n
      · exact ⟨n, by omega, by rw [hjn]; exact hn⟩
      · obtain ⟨i, hi, e⟩ := z_pig n f (fun i hi => by
          have a := h1 i (by omega)
          have hne : f i ≠ n := fun q => by have := h2 i n (by omega) (by omega) (q.trans hn.symm); omega
          omega) (fun i j hi hj e => h2 i j (by omega) (by omega) e) j (by omega)
        exact ⟨i, by omega, e⟩
    · have hm := h1 n (by omega)
      have key := z_pig n (fun i => if f i = n then f n else f i) (fun i hi => by
          have a := h1 i (by omega)
          by_cases q : f i = n
          · rw [if_pos q]; omega
          · rw [if_neg q]; omega) (fun i j hi hj e => by
          by_cases q : f i = n
          · by_cases q' : f j = n
            · exact h2 i j (by omega) (by omega) (q.trans q'.symm)
            · rw [if_pos q, if_neg q'] at e
              have := h2 n j (by omega) (by omega) e
              omega
          · by_cases q' : f j = n
            · rw [if_neg q, if_pos q'] at e
              have := h2 i n (by omega) (by omega) e
              omega
            · rw [if_neg q, if_neg q'] at e
              exact h2 i j (by omega) (by omega) e)
      by_cases hjm : j = f n
      · exact ⟨n, by omega, hjm.symm⟩
      · by_cases hjn : j = n
        · obtain ⟨i, hi, e⟩ := key (f n) (by omega)
          by_cases q : f i = n
          · exact ⟨i, by omega, by rw [q, hjn]⟩
          · rw [if_neg q] at e
            have := h2 i n (by omega) (by omega) e
            omega
        · obtain ⟨i, hi, e⟩ := key j (by omega)
          by_cases q : f i = n
          · rw [if_pos q] at e; exact absurd e.symm hjm
          · rw [if_neg q] at e; exact ⟨i, by omega, e⟩
def z_bf (S : Nat → Int32) (a b : Nat) : Prop := S b < S a ∨ (S a = S b ∧ a < b)
theorem z_bf_i {S : Nat → Int32} {a b : Nat} : z_bf S a b ↔ ((S b).toInt < (S a).toInt ∨ ((S a).toInt = (S b).toInt ∧ a < b)) := by
  unfold z_bf
  rw [Int32.lt_iff_toInt_lt, Int32.toInt_inj]
theorem z_bf_as {S : Nat → Int32} {a b : Nat} (h : z_bf S a b) (h' : z_bf S b a) : False := by
  rw [z_bf_i] at h h'
  omega
theorem z_bf_ir {S : Nat → Int32} {a : Nat} (h : z_bf S a a) : False := z_bf_as h h
theorem z_bf_tr {S : Nat → Int32} {a b c : Nat} (h : z_bf S a b) (h' : z_bf S b c) : z_bf S a c := by
  rw [z_bf_i] at h h' ⊢
  omega
theorem z_bf_tt {S : Nat → Int32} {a b : Nat} (h : a ≠ b) : z_bf S a b ∨ z_bf S b a := by
  rw [z_bf_i, z_bf_i]
  omega
theorem z_cn_mo {M : z_TM} {a b : Nat} (h : z_bf (M 1) a b) : ∀ m, z_cn M a m ≤ z_cn M b m ∧ (a < m → z_cn M a m < z_cn M b m)
  | 0 => ⟨Nat.le_refl _, fun h => absurd h (Nat.not_lt_zero _)⟩
  | m + 1 => by
    have ih := z_cn_mo h m
    unfold z_cn
    by_cases p : M 1 a < M 1 m ∨ (M 1 m = M 1 a ∧ m < a)
    · have q : M 1 b < M 1 m ∨ (M 1 m = M 1 b ∧ m < b) := z_bf_tr (S := M 1) p h
      rw [if_pos p, if_pos q]
      have hma : a ≠ m := fun e => z_bf_ir (S := M 1) (a := m) (by rw [e] at p; exact p)
      refine ⟨by omega, fun z => ?_⟩
      have := ih.2 (by omega)
      omega
    · rw [if_neg p]
      by_cases q : M 1 b < M 1 m ∨ (M 1 m = M 1 b ∧ m < b)
      · rw [if_pos q]
        exact ⟨by omega, fun z => by omega⟩
      · rw [if_neg q]
        have hma : a ≠ m := fun e => q (by rw [e] at h; exact h)
        refine ⟨by omega, fun z => ?_⟩
        have := ih.2 (by omega)
        omega
theorem z_cn_in {M : z_TM} {n a b : Nat} (ha : a < n) (hb : b < n) (h : z_cn M a n = z_cn M b n) : a = b := by
  by_cases q : a = b
  · exact q
  · rcases z_bf_tt (S := M 1) q with z | z
    · have := (z_cn_mo z n).2 ha
      omega
    · have := (z_cn_mo z n).2 hb
      omega
theorem z_so_19 {M : z_TM} {n k : Nat} : ∀ K, K ≤ n → k < K → z_so M n K 19 (z_cn M k n) = nI k
  | 0, _, h => absurd h (Nat.not_lt_zero _)
  | K + 1, hK, h => by
    rw [z_so, z_sM_f _ _ _ (by decide), z_sM_s]
    by_cases q : k = K
    · rw [q, z_upd_s]
    · rw [z_upd_n _ _ (fun e => q (z_cn_in (by omega) (by omega) e))]
      exact z_so_19 K (by omega) (by omega)
/-- the order of the players -/
theorem z_odx (M : z_TM) (n : Nat) : ∃ od : Nat → Nat, (∀ i, i < n → z_so M n n 19 i = nI (od i) ∧ od i < n) ∧ (∀ i j, i < j → j < n → z_bf (M 1) (od i) (od j)) ∧ ∀ p, p < n → ∃ i, i < n ∧ od i = p := by
  have hp := z_pig n (fun k => z_cn M k n) (fun i hi => z_cn_lt n hi) (fun i j hi hj e => z_cn_in hi hj e)
  have h : ∀ i, ∃ k, i < n → k < n ∧ z_cn M k n = i := fun i => by
    by_cases q : i < n
    · obtain ⟨k, h1, h2⟩ := hp i q
      exact ⟨k, fun _ => ⟨h1, h2⟩⟩
    · exact ⟨0, fun z => absurd z q⟩
  have hs : ∀ i, i < n → (h i).choose < n ∧ z_cn M (h i).choose n = i := fun i hi => (h i).choose_spec hi
  refine ⟨fun i => (h i).choose, fun i hi => ⟨?_, (hs i hi).1⟩, fun i j hij hj => ?_, fun p hp => ⟨z_cn M p n, z_cn_lt n hp, ?_⟩⟩
  · have := z_so_19 (M := M) n (Nat.le_refl _) (hs i hi).1
    rw [(hs i hi).2] at this
    exact this
  · have h1 := hs i (by omega)
    have h2 := hs j hj
    have hne : (h i).choose ≠ (h j).choose := fun e => by rw [e] at h1; omega
    rcases z_bf_tt (S := M 1) hne with z | z
    · exact z
    · have := (z_cn_mo z n).2 h2.1
      omega
  · exact z_cn_in (hs _ (z_cn_lt n hp)).1 hp (hs _ (z_cn_lt n hp)).2
theorem z_ite_c {α : Type} {P Q : Prop} (h : P ↔ Q) {a b : α} : @ite _ P (Classical.propDecidable P) a b = @ite _ Q (Classical.propDecidable Q) a b := by
  have e : P = Q := propext h
  subst e
  rfl
noncomputable def z_fo (I : z_TI) (C : Nat → Prop) : Nat → Option Nat
  | 0 => none
  | k + 1 => @ite _ (C k ∧ ah I k (z_fo I C k)) (Classical.propDecidable _) (some k) (z_fo I C k)
theorem z_fo_n {I : z_TI} {C : Nat → Prop} : ∀ K, z_fo I C K = none → ∀ b, b < K → ¬ C b
  | 0, _, b, hb => absurd hb (Nat.not_lt_zero _)
  | K + 1, h, b, hb => by
    rw [z_fo] at h
    by_cases q : C K ∧ ah I K (z_fo I C K)
    · rw [if_pos q] at h; cases h
    · rw [if_neg q] at h
      by_cases e : b = K
      · rw [e]
        exact fun z => q ⟨z, by rw [h]; trivial⟩
      · exact z_fo_n K h b (by omega)
theorem z_fo_s {I : z_TI} {C : Nat → Prop} {a : Nat} : ∀ K, z_fo I C K = some a → a < K ∧ C a ∧ ∀ b, b < K → C b → b = a ∨ z_bf (fun p => I 2 p 0) a b
  | 0, h => by cases h
  | K + 1, h => by
    rw [z_fo] at h
    by_cases q : C K ∧ ah I K (z_fo I C K)
    · rw [if_pos q] at h
      have e0 : K = a := Option.some.inj h
      rw [← e0]
      refine ⟨Nat.lt_succ_self _, q.1, fun b hb hC => ?_⟩
      by_cases e : b = K
      · exact Or.inl e
      · refine Or.inr ?_
        cases hf : z_fo I C K with
        | none => exact absurd hC (z_fo_n K hf b (by omega))
        | some a' =>
          have q2 := q.2
          rw [hf] at q2
          have q3 : z_bf (fun p => I 2 p 0) K a' := q2
          rcases (z_fo_s K hf).2.2 b (by omega) hC with z | z
          · rw [z]; exact q3
          · exact z_bf_tr q3 z
    · rw [if_neg q] at h
      have ih := z_fo_s K h
      refine ⟨by omega, ih.2.1, fun b hb hC => ?_⟩
      by_cases e : b = K
      · rw [e] at hC
        rw [h] at q
        rcases z_bf_tt (S := fun p => I 2 p 0) (a := a) (b := K) (by omega) with z | z
        · exact Or.inr (by rw [e]; exact z)
        · exact absurd ⟨hC, z⟩ q
      · exact ih.2.2 b (by omega) hC
theorem z_fu_e {I : z_TI} {N : z_TN} {O : z_TO} : ∀ K, z_fu I N O K = z_fo I (fun k => k < N 6 0 ∧ O 1 k = none) K
  | 0 => rfl
  | K + 1 => by
    rw [z_fu, z_fo, z_fu_e K]
    exact z_ite_c and_assoc.symm
theorem z_pf1_e {I : z_TI} {N : z_TN} {O : z_TO} {a : Nat} : ∀ K, z_pf1 I N O a K = z_fo I (fun k => k < N 6 0 ∧ k ≠ a ∧ O 1 k = none) K
  | 0 => rfl
  | K + 1 => by
    rw [z_pf1, z_fo, z_pf1_e K]
    exact z_ite_c (by simp only [and_assoc])
theorem z_pf2_e {I : z_TI} {N : z_TN} {O : z_TO} {a : Nat} : ∀ K, z_pf2 I N O a K = z_fo I (fun k => k < N 6 0 ∧ k ≠ a ∧ O 1 k = none ∧ I 5 a k = 0) K
  | 0 => rfl
  | K + 1 => by
    rw [z_pf2, z_fo, z_pf2_e K]
    exact z_ite_c (by simp only [and_assoc])
theorem z_sc_n {C : Nat → Prop} {od : Nat → Nat} {n : Nat} : ∀ c, c ≤ n → z_sc C od n c = none → ∀ i, n - c ≤ i → i < n → ¬ C i
  | 0, _, _, i, h1, h2 => by omega
  | c + 1, hc, h, i, h1, h2 => by
    rw [z_sc] at h
    by_cases q : C (n - 1 - c)
    · rw [if_pos q] at h; cases h
    · rw [if_neg q] at h
      by_cases e : i = n - 1 - c
      · rw [e]; exact q
      · exact z_sc_n c (by omega) h i (by omega) h2
theorem z_sc_s {C : Nat → Prop} {od : Nat → Nat} {n f : Nat} : ∀ c, c ≤ n → z_sc C od n c = some f → ∃ i, n - c ≤ i ∧ i < n ∧ C i ∧ f = od i ∧ ∀ j, n - c ≤ j → j < i → ¬ C j
  | 0, _, h => by cases h
  | c + 1, hc, h => by
    rw [z_sc] at h
    by_cases q : C (n - 1 - c)
    · rw [if_pos q] at h
      cases h
      exact ⟨n - 1 - c, by omega, by omega, q, rfl, fun j h1 h2 => by omega⟩
    · rw [if_neg q] at h
      obtain ⟨i, h1, h2, h3, h4, h5⟩ := z_sc_s c (by omega) h
      refine ⟨i, by omega, h2, h3, h4, fun j h6 h7 => ?_⟩
      by_cases e : j = n - 1 - c
      · rw [e]; exact q
      · exact h5 j (by omega) h7
theorem z_fo_sc {I : z_TI} {C2 C : Nat → Prop} {od : Nat → Nat} {n k : Nat} (hk : k < n) (hn : n ≤ 8) (hod : ∀ i, i < n → od i < n) (srt : ∀ i j, i < j → j < n → z_bf (fun p => I 2 p 0) (od i) (od j)) (hC : ∀ b, C2 b ↔ ∃ i, k < i ∧ i < n ∧ od i = b ∧ C i) : z_fo I C2 8 = z_sc C od n (n - 1 - k) := by
  cases hs : z_sc C od n (n - 1 - k) with
  | none =>
    cases hf : z_fo I C2 8 with
    | none => rfl
    | some a =>
      obtain ⟨i, h1, h2, h3, h4⟩ := (hC a).1 (z_fo_s 8 hf).2.1
      exact absurd h4 (z_sc_n _ (by omega) hs i (by omega) h2)
  | some f =>
    obtain ⟨i, h1, h2, h3, h4, h5⟩ := z_sc_s _ (by omega) hs
    have hCi : C2 (od i) := (hC _).2 ⟨i, by omega, h2, rfl, h3⟩
    have hoi := hod i h2
    cases hf : z_fo I C2 8 with
    | none => exact absurd hCi (z_fo_n 8 hf (od i) (by omega))
    | some a =>
      have ha := z_fo_s 8 hf
      obtain ⟨j, g1, g2, g3, g4⟩ := (hC a).1 ha.2.1
      by_cases e : j = i
      · rw [h4, ← g3, e]
      · by_cases l : j < i
        · exact absurd g4 (h5 j (by omega) l)
        · have s1 := srt i j (by omega) g2
          rw [g3] at s1
          rcases ha.2.2 (od i) (by omega) hCi with z | z
          · rw [z] at s1; exact (z_bf_ir s1).elim
          · exact (z_bf_as s1 z).elim
def z_cu (P : Nat → Option Nat) : Nat → Nat
  | 0 => 0
  | k + 1 => z_cu P k + (if (P k).isNone then 1 else 0)
theorem z_cu_le (P : Nat → Option Nat) : ∀ n, z_cu P n ≤ n
  | 0 => Nat.le_refl _
  | n + 1 => by
    have := z_cu_le P n
    unfold z_cu
    split <;> omega
theorem z_cu_up {P Q : Nat → Option Nat} {a b : Nat} (ha : P a = none) (hq : Q a = some b) (ho : ∀ p, p ≠ a → Q p = P p) : ∀ n, (n ≤ a → z_cu Q n = z_cu P n) ∧ (a < n → z_cu Q n + 1 = z_cu P n)
  | 0 => ⟨fun _ => rfl, fun h => absurd h (Nat.not_lt_zero _)⟩
  | n + 1 => by
    have ih := z_cu_up ha hq ho n
    unfold z_cu
    by_cases e : n = a
    · refine ⟨fun h => by omega, fun _ => ?_⟩
      have := ih.1 (by omega)
      rw [e, ha, hq]
      rw [e] at this
      simp [this]
    · rw [ho n e]
      refine ⟨fun h => ?_, fun h => ?_⟩
      · have := ih.1 (by omega)
        omega
      · have := ih.2 (by omega)
        omega
theorem z_cu_2 {P : Nat → Option Nat} {a b n : Nat} (hab : a ≠ b) (ha : P a = none) (hb : P b = none) (han : a < n) (hbn : b < n) : z_cu (z_up2 P a b) n + 2 = z_cu P n := by
  have h1 := (z_cu_up (P := P) (Q := fun i => if i = a then some b else P i) (a := a) (b := b) ha (if_pos rfl) (fun p hp => if_neg hp) n).2 han
  have h2 := (z_cu_up (P := fun i => if i = a then some b else P i) (Q := z_up2 P a b) (a := b) (b := a) (by rw [if_neg (Ne.symm hab)]; exact hb) (by unfold z_up2; exact if_pos rfl) (fun p hp => by unfold z_up2; rw [if_neg hp]) n).2 hbn
  omega
section ORD
variable {I : z_TI} {N : z_TN} {O : z_TO} {B : z_TB} {M : z_TM} {mt : Nat → Nat → Prop} {od : Nat → Nat} {n : Nat}
theorem z_po_n {k : Nat} {P : Nat → Option Nat} (h : z_po mt od n k P = none) : z_sc (fun i => P (od i) = none) od n (n - 1 - k) = none := by
  unfold z_po at h
  cases h2 : z_sc (fun i => P (od i) = none ∧ ¬ mt (od k) (od i)) od n (n - 1 - k) with
  | none => rw [h2] at h; exact h
  | some f => rw [h2] at h; cases h
theorem z_po_s {k f : Nat} {P : Nat → Option Nat} (h : z_po mt od n k P = some f) : ∃ i, n - (n - 1 - k) ≤ i ∧ i < n ∧ P (od i) = none ∧ f = od i := by
  unfold z_po at h
  cases h2 : z_sc (fun i => P (od i) = none ∧ ¬ mt (od k) (od i)) od n (n - 1 - k) with
  | none =>
    rw [h2] at h
    obtain ⟨i, a, b, c, d, -⟩ := z_sc_s _ (by omega) h
    exact ⟨i, a, b, c, d⟩
  | some f' =>
    rw [h2] at h
    cases h
    obtain ⟨i, a, b, c, d, -⟩ := z_sc_s _ (by omega) h2
    exact ⟨i, a, b, c.1, d⟩
theorem z_pp_s (k : Nat) : z_pp mt od n (k + 1) = z_p1 (z_pp mt od n k) (od k) (z_pp mt od n k (od k)) (z_po mt od n k (z_pp mt od n k)) := rfl
theorem z_pp_st {k : Nat} (h : ∀ j, k ≤ j → j < n → z_pp mt od n k (od j) ≠ none) : ∀ d, k + d ≤ n → z_pp mt od n (k + d) = z_pp mt od n k
  | 0, _ => rfl
  | d + 1, hd => by
    have ih := z_pp_st h d (by omega)
    rw [show k + (d + 1) = (k + d) + 1 by omega, z_pp_s, ih]
    cases q : z_pp mt od n k (od (k + d)) with
    | none => exact absurd q (h _ (by omega) (by omega))
    | some x => exact z_p1_s _ _ _ _
theorem z_pf_po (hN : N 6 0 = n) (hn : n ≤ 8) (hod : ∀ i, i < n → od i < n) (hsu : ∀ p, p < n → ∃ i, i < n ∧ od i = p) (srt : ∀ i j, i < j → j < n → z_bf (fun p => I 2 p 0) (od i) (od j)) (hmt : ∀ a b, a < n → b < n → (¬ mt a b ↔ I 5 a b = 0)) {k : Nat} {P : Nat → Option Nat} (hk : k < n) (hO : ∀ p, p < n → O 1 p = P p) (hP : ∀ i, i < k → P (od i) ≠ none) : z_pf I N O (od k) = z_po mt od n k P := by
  have hne : ∀ i, k < i → i < n → od i ≠ od k := fun i h1 h2 e => by
    have := srt k i h1 h2
    rw [e] at this
    exact z_bf_ir this
  have hgt : ∀ b, b < n → b ≠ od k → P b = none → ∃ i, k < i ∧ i < n ∧ od i = b := fun b h1 h2 h3 => by
    obtain ⟨i, hi, e⟩ := hsu b h1
    refine ⟨i, ?_, hi, e⟩
    by_cases q : i < k
    · exact absurd (by rw [e]; exact h3) (hP i q)
    · by_cases q2 : i = k
      · exact absurd (by rw [← e, q2]) h2
      · omega
  have e2 : z_pf2 I N O (od k) 8 = z_sc (fun i => P (od i) = none ∧ ¬ mt (od k) (od i)) od n (n - 1 - k) := by
    rw [z_pf2_e]
    refine z_fo_sc hk hn hod srt (fun b => ⟨fun ⟨h1, h2, h3, h4⟩ => ?_, fun ⟨i, h1, h2, h3, h4, h5⟩ => ?_⟩)
    · rw [hN] at h1
      rw [hO b h1] at h3
      obtain ⟨i, a, b', c⟩ := hgt b h1 h2 h3
      exact ⟨i, a, b', c, by rw [c]; exact h3, by rw [c]; exact (hmt _ _ (hod k hk) h1).2 h4⟩
    · have hb := hod i h2
      rw [← h3, hN]
      exact ⟨hb, hne i h1 h2, by rw [hO _ hb]; exact h4, (hmt _ _ (hod k hk) hb).1 h5⟩
  have e1 : z_pf1 I N O (od k) 8 = z_sc (fun i => P (od i) = none) od n (n - 1 - k) := by
    rw [z_pf1_e]
    refine z_fo_sc hk hn hod srt (fun b => ⟨fun ⟨h1, h2, h3⟩ => ?_, fun ⟨i, h1, h2, h3, h4⟩ => ?_⟩)
    · rw [hN] at h1
      rw [hO b h1] at h3
      obtain ⟨i, a, b', c⟩ := hgt b h1 h2 h3
      exact ⟨i, a, b', c, by rw [c]; exact h3⟩
    · have hb := hod i h2
      rw [← h3, hN]
      exact ⟨hb, hne i h1 h2, by rw [hO _ hb]; exact h4⟩
  unfold z_pf z_po
  rw [e2, e1]
  cases z_sc (fun i => P (od i) = none ∧ ¬ mt (od k) (od i)) od n (n - 1 - k) with
  | none => rfl
  | some f => rfl
theorem z_pr_pp (hN : N 6 0 = n) (hn : n ≤ 8) (hod : ∀ i, i < n → od i < n) (hsu : ∀ p, p < n → ∃ i, i < n ∧ od i = p) (srt : ∀ i j, i < j → j < n → z_bf (fun p => I 2 p 0) (od i) (od j)) (hmt : ∀ a b, a < n → b < n → (¬ mt a b ↔ I 5 a b = 0)) : ∀ d k : Nat, n - k = d → k ≤ n → ∀ (m : Nat) (O : z_TO), (∀ p, p < n → O 1 p = z_pp mt od n k p) → (∀ i, i < k → z_pp mt od n k (od i) ≠ none) → z_cu (z_pp mt od n k) n ≤ 2 * m + 1 → ∀ p, p < n → z_pr I N m O 1 p = z_pp mt od n n p := by
  intro d
  induction d with
  | zero =>
    intro k hd hkn m O hO hP hc p hp
    have e : k = n := by omega
    subst e
    cases m with
    | zero => exact hO p hp
    | succ m =>
      rw [z_pr]
      cases hfu : z_fu I N O 8 with
      | none => exact hO p hp
      | some a =>
        have ha := z_fu_lt hfu
        rw [hN] at ha
        obtain ⟨i, hi, ei⟩ := hsu a ha.1
        have := hO a ha.1
        rw [ha.2] at this
        exact absurd (by rw [ei]; exact this.symm) (hP i hi)
  | succ d ih =>
    intro k hd hkn m O hO hP hc p hp
    have hk : k < n := by omega
    have hok := hod k hk
    have ih := ih (k + 1) (by omega) (by omega)
    cases h1 : z_pp mt od n k (od k) with
    | some x =>
      have e : z_pp mt od n (k + 1) = z_pp mt od n k := by rw [z_pp_s, h1, z_p1_s]
      rw [e] at ih
      refine ih m O hO (fun i hi => ?_) hc p hp
      by_cases q : i = k
      · rw [q, h1]; exact fun z => nomatch z
      · exact hP i (by omega)
    | none =>
      have hfu : z_fu I N O 8 = some (od k) := by
        rw [z_fu_e]
        have hCk : od k < N 6 0 ∧ O 1 (od k) = none := ⟨by rw [hN]; exact hok, by rw [hO _ hok]; exact h1⟩
        cases hf : z_fo I (fun k => k < N 6 0 ∧ O 1 k = none) 8 with
        | none => exact absurd hCk (z_fo_n 8 hf (od k) (by omega))
        | some a =>
          have ha := z_fo_s 8 hf
          have ha2 := ha.2.1
          rw [hN] at ha2
          obtain ⟨j, hj, ej⟩ := hsu a ha2.1
          rcases ha.2.2 (od k) (by omega) hCk with z | z
          · rw [z]
          · by_cases q : j < k
            · have := hO a ha2.1
              rw [ha2.2] at this
              exact absurd (by rw [ej]; exact this.symm) (hP j q)
            · by_cases q2 : j = k
              · rw [← ej, q2]
              · have := srt k j (by omega) hj
                rw [ej] at this
                exact (z_bf_as z this).elim
      have hpf := z_pf_po (O := O) hN hn hod hsu srt hmt hk hO hP
      cases ho : z_po mt od n k (z_pp mt od n k) with
      | none =>
        rw [ho] at hpf
        have e : z_pp mt od n (k + 1) = z_pp mt od n k := by rw [z_pp_s, h1, ho]; rfl
        have hno := z_sc_n _ (by omega) (z_po_n ho)
        have e2 := z_pp_st (mt := mt) (od := od) (n := n) (k := k + 1) (fun j a b => by rw [e]; exact hno j (by omega) b) (n - (k + 1)) (by omega)
        rw [show k + 1 + (n - (k + 1)) = n by omega] at e2
        rw [e2, e]
        cases m with
        | zero => exact hO p hp
        | succ m =>
          rw [z_pr, hfu]
          dsimp only
          rw [hpf]
          exact hO p hp
      | some f =>
        rw [ho] at hpf
        obtain ⟨i, g1, g2, g3, g4⟩ := z_po_s ho
        have hfn : f < n := by rw [g4]; exact hod i g2
        have hfk : od k ≠ f := fun z => by
          have := srt k i (by omega) g2
          rw [← g4, z] at this
          exact z_bf_ir this
        have e : z_pp mt od n (k + 1) = z_up2 (z_pp mt od n k) (od k) f := by rw [z_pp_s, h1, ho]; rfl
        have hcu := z_cu_2 (P := z_pp mt od n k) hfk h1 (by rw [g4]; exact g3) hok hfn
        cases m with
        | zero => omega
        | succ m =>
          rw [z_pr, hfu]
          dsimp only
          rw [hpf]
          dsimp only
          rw [e] at ih
          refine ih m _ (fun p hp => ?_) (fun j hj => ?_) (by omega) p hp
          · unfold z_sO z_up2
            rw [if_pos rfl, if_pos rfl]
            by_cases q1 : p = f
            · rw [if_pos q1, if_pos q1]
            · rw [if_neg q1, if_neg q1]
              by_cases q2 : p = od k
              · rw [if_pos q2, if_pos q2]
              · rw [if_neg q2, if_neg q2]
                exact hO p hp
          · unfold z_up2
            by_cases q1 : od j = f
            · rw [if_pos q1]; exact fun z => nomatch z
            · rw [if_neg q1]
              by_cases q2 : od j = od k
              · rw [if_pos q2]; exact fun z => nomatch z
              · rw [if_neg q2]
                exact hP j (by
                  have : j ≠ k := fun z => q2 (by rw [z])
                  omega)
theorem z_J.mtx (h : z_J I N O B M) {a b : Nat} (ha : a < N 0 0) (hb : b < N 0 0) : ¬ z_mt M (z_ed N O) (nI a) (nI b) ↔ I 5 a b = 0 := by
  obtain ⟨hS, -, -, hG, -, -, -, hM⟩ := h
  have h8 := hS.2.2.2.1
  rw [hM a b ha]
  refine not_congr ?_
  unfold z_mt
  have hle := z_ed_le (N := N) (O := O)
  have key : ∀ g, g < z_ed N O → (((M 8 g = nI a ∧ M 9 g = nI b) ∨ (M 8 g = nI b ∧ M 9 g = nI a)) ↔ ((N 3 g = a ∧ N 4 g = b) ∨ (N 3 g = b ∧ N 4 g = a))) := fun g hg => by
    have h1 := hG.2.2.2.1 g (by omega)
    have h2 := hS.2.2.2.2.2.2.1 g (by omega)
    rw [h1.1, h1.2.1, nI_eq (by omega) (by omega), nI_eq (by omega) (by omega), nI_eq (by omega) (by omega), nI_eq (by omega) (by omega)]
  exact ⟨fun ⟨g, h1, h2⟩ => ⟨g, h1, (key g h1).1 h2⟩, fun ⟨g, h1, h2⟩ => ⟨g, h1, (key g h1).2 h2⟩⟩
theorem z_J.pairs (h : z_J I N O B M) : ∃ od : Nat → Nat, (∀ i, i < N 0 0 → z_so M (N 0 0) (N 0 0) 19 i = nI (od i) ∧ od i < N 0 0) ∧ ∀ p, p < N 0 0 → z_pp (fun a b => z_mt M (z_ed N O) (nI a) (nI b)) od (N 0 0) (N 0 0) p = z_pt I N O 1 p := by
  obtain ⟨od, h1, h2, h3⟩ := z_odx M (N 0 0)
  have hS := h.1
  have h8 := hS.2.2.2.1
  refine ⟨od, h1, fun p hp => ?_⟩
  have hs : ∀ i j, i < j → j < N 0 0 → z_bf (fun p => I 2 p 0) (od i) (od j) := fun i j a b => by
    have := h2 i j a b
    unfold z_bf at this ⊢
    rw [(h.2.2.1.2.1 (od i) (h1 i (by omega)).2).1, (h.2.2.1.2.1 (od j) (h1 j b).2).1] at this
    exact this
  refine (z_pr_pp (I := I) (N := N) (mt := fun a b => z_mt M (z_ed N O) (nI a) (nI b)) (od := od) (n := N 0 0) hS.1 h8 (fun i hi => (h1 i hi).2) h3 hs (fun a b ha hb => h.mtx ha hb) (N 0 0) 0 rfl (Nat.zero_le _) 4 (z_oc O 8) (fun p hp => ?_) (fun i hi => absurd hi (Nat.not_lt_zero _)) ?_ p hp).symm
  · show (if 1 = 1 then (fun i => if i < 8 then none else O 1 i) else O 1) p = none
    rw [if_pos rfl]
    exact if_pos (by omega)
  · have := z_cu_le (z_pp (fun a b => z_mt M (z_ed N O) (nI a) (nI b)) od (N 0 0) 0) (N 0 0)
    omega
end ORD

