/-! a new academy -/
theorem z_upn {w : z_W} {a b : Nat} {e : va_E} (h : z_up w a e b = none) : b ≠ a ∧ w b = none := by
  by_cases q : b = a
  · rw [q, z_upS] at h; cases h
  · rw [z_upN _ _ q] at h; exact ⟨q, h⟩
def z_iv (w0 : z_W) (q : Nat) (e : va_E) (A : Nat → Nat) (T : List Nat) (ct : Nat → va_E) (w : z_W) : Prop :=
  w q = some e ∧ (∀ t ∈ T, w (A t) = some (ct t) ∧ w0 (A t) = none ∧ A t ≠ q) ∧ (∀ t ∈ T, ∀ t' ∈ T, A t = A t' → t = t') ∧ z_kp q w0 w ∧ (∀ a, w a = none → w0 a = none ∧ a ≠ q)
section IN
variable {w0 w : z_W} {q : Nat} {e e' x : va_E} {A : Nat → Nat} {T : List Nat} {ct : Nat → va_E} {r t0 : Nat}
theorem z_iv.rf (h : w q = some e) : z_iv w q e A [] ct w := ⟨h, fun t ht => (by cases ht), fun t ht => (by cases ht), z_kp.rf, fun a ha => ⟨ha, fun h2 => by rw [h2, h] at ha; cases ha⟩⟩
theorem z_iv.add (h : z_iv w0 q e A T ct w) (hr : w r = none) (ht0 : t0 ∉ T) : z_iv w0 q e (fun t => if t = t0 then r else A t) (t0 :: T) (fun t => if t = t0 then x else ct t) (z_up w r x) := by
  have hrq := (h.2.2.2.2 r hr).2
  have hold : ∀ t ∈ T, t ≠ t0 := fun t h2 h3 => ht0 (h3 ▸ h2)
  have hne : ∀ t ∈ T, A t ≠ r := fun t h2 h3 => by have := (h.2.1 t h2).1; rw [h3, hr] at this; cases this
  refine ⟨z_upne hrq.symm h.1, fun t ht => ?_, fun t ht t' ht' hA => ?_, h.2.2.2.1.up (Or.inr (h.2.2.2.2 r hr).1), fun a ha => ?_⟩
  · dsimp only
    rcases List.mem_cons.1 ht with rfl | ht
    · rw [if_pos rfl, if_pos rfl]
      exact ⟨z_upS _ _ _, (h.2.2.2.2 r hr).1, hrq⟩
    · rw [if_neg (hold t ht), if_neg (hold t ht)]
      exact ⟨z_upne (hne t ht) (h.2.1 t ht).1, (h.2.1 t ht).2⟩
  · dsimp only at hA
    rcases List.mem_cons.1 ht with h1 | h1 <;> rcases List.mem_cons.1 ht' with h2 | h2
    · rw [h1, h2]
    · rw [if_pos h1, if_neg (hold t' h2)] at hA
      exact absurd hA.symm (hne t' h2)
    · rw [if_pos h2, if_neg (hold t h1)] at hA
      exact absurd hA (hne t h1)
    · rw [if_neg (hold t h1), if_neg (hold t' h2)] at hA
      exact h.2.2.1 t h1 t' h2 hA
  · exact h.2.2.2.2 a (z_upn ha).2
theorem z_iv.put (h : z_iv w0 q e A T ct w) : z_iv w0 q e' A T ct (z_up w q e') := by
  refine ⟨z_upS _ _ _, fun t ht => ⟨z_upne (h.2.1 t ht).2.2 (h.2.1 t ht).1, (h.2.1 t ht).2⟩, h.2.2.1, h.2.2.2.1.up (Or.inl rfl), fun a ha => h.2.2.2.2 a (z_upn ha).2⟩
theorem z_iv.cte (h : z_iv w0 q e A T ct w) {ct' : Nat → va_E} (hc : ∀ t ∈ T, ct t = ct' t) : z_iv w0 q e A T ct' w :=
  ⟨h.1, fun t ht => ⟨by rw [← hc t ht]; exact (h.2.1 t ht).1, (h.2.1 t ht).2⟩, h.2.2.1, h.2.2.2.1, h.2.2.2.2⟩
theorem z_iv.set (h : z_iv w0 q e A T ct w) (ht0 : t0 ∈ T) : z_iv w0 q e A T (fun t => if t = t0 then x else ct t) (z_up w (A t0) x) := by
  refine ⟨z_upne (h.2.1 t0 ht0).2.2.symm h.1, fun t ht => ⟨?_, (h.2.1 t ht).2⟩, h.2.2.1, h.2.2.2.1.up (Or.inr (h.2.1 t0 ht0).2.1), fun a ha => h.2.2.2.2 a (z_upn ha).2⟩
  dsimp only
  by_cases q : t = t0
  · rw [if_pos q, q]; exact z_upS _ _ _
  · rw [if_neg q]; exact z_upne (fun z => q (h.2.2.1 t ht t0 ht0 z)) (h.2.1 t ht).1
theorem z_iv.of {w' : z_W} (h : z_iv w0 q e A T ct w) (hk : ∀ a, w a ≠ none → w' a = w a) : z_iv w0 q e A T ct w' := by
  refine ⟨(hk q (by rw [h.1]; exact fun z => nomatch z)).trans h.1, fun t ht => ⟨(hk _ (by rw [(h.2.1 t ht).1]; exact fun z => nomatch z)).trans (h.2.1 t ht).1, (h.2.1 t ht).2⟩, h.2.2.1, fun a ha hb => ?_, fun a ha => h.2.2.2.2 a ?_⟩
  · have := h.2.2.2.1 a ha hb
    rw [hk a (by rw [this]; exact hb), this]
  · cases hw : w a with
    | none => rfl
    | some z => rw [hk a (by rw [hw]; exact fun z => nomatch z), hw] at ha; cases ha
theorem z_genI {G : z_G} {Y : z_Mi} {d : Nat} {Z : z_Gq} {pc : Nat} {L : List (Option Value)} {st : List Value} {k n : Nat} (h : z_iv w0 q e A T ct w) (kk : ∀ w', z_iv w0 q e A T ct w' → z_E G Y d Z pc L st w' k n) : z_E G Y d Z pc L st w k n := kk w h
end IN
/-- the state at first -/
def z_B0 : z_TB := fun i j => decide (i = 0 ∧ j = 0)
def z_A0 (q : Nat) (A : Nat → Nat) : Nat → Nat → Nat → Nat := fun k _ _ => if k = 0 then q else A k
section IN2
variable {G : z_G} {w : z_W}
theorem mX5_init {q : Nat} (hq : w q = some (.inr (5, [.null, .int 0, .null, .int 0, .null, .null, .int 0, .null]))) : z_M G zX5_init 3 [.ref q] w 6 150 (fun v w' => v = none ∧ ∃ A, A 0 0 0 = q ∧ z_C G (fun _ => False) A (fun _ _ _ => 0) (fun _ _ => 0) (fun _ _ => none) z_B0 w' ∧ z_kp q w w' ∧ (∀ k i j, z_lv (fun _ _ => 0) z_B0 k i j → A k i j = q ∨ w (A k i j) = none)) z_nx := by
  refine z_M.of (by decide +kernel) rfl (by intro v hv; simp only [List.mem_cons, List.not_mem_nil, or_false] at hv; rcases hv with rfl <;> first | rfl | exact z_isr_cat (z_isr_rf _)) (Nat.le_of_ble_eq_true rfl) ?_
  show z_E _ zX5_init _ _ 0 [some (.ref q)] [] _ _ _
  refine z_aload_n (pc := 0) dX5_init_0 rfl (by first | rfl | exact z_isr_rf _) ?_
  refine oiX5_1 (pc := 1) rfl dX5_init_1 (by omega) (Nat.le_of_ble_eq_true rfl) ?_
  refine z_aload_n (pc := 4) dX5_init_4 rfl (by first | rfl | exact z_isr_rf _) ?_
  refine z_bipush_8 (pc := 5) dX5_init_5 ?_
  refine z_newqP (m0 := 8) (pc := 7) dX5_init_7 (by exact awX5_9) (by decide) (by decide) (Nat.le_of_ble_eq_true rfl) (by omega) (by omega) (fun r1 hr1 => ?_)
  refine z_genI ((z_iv.rf (A := fun _ => 0) (ct := fun _ => .inl (0, 0, .inl fun _ => 0)) hq).add (x := .inl (G.2.1 4, 8, z_rs (fun _ => none))) hr1 (t0 := 1) (by decide)) (fun w1 h1 => ?_)
  refine pfX5_11 (pc := 10) rfl rfl dX5_init_10 (by first | rfl | exact z_isr_rf _) (h1.1) (Nat.le_of_ble_eq_true rfl) ?_
  refine z_genI (h1.put (e' := .inr (5, [.ref r1, .int 0, .null, .int 0, .null, .null, .int 0, .null]))) (fun w1 h1 => ?_)
  refine z_aload_n (pc := 13) dX5_init_13 rfl (by first | rfl | exact z_isr_rf _) ?_
  refine z_bipush_60 (pc := 14) dX5_init_14 ?_
  refine z_newqG (m0 := 60) (pc := 16) dX5_init_16 (by exact awX5_15) (by decide) (by decide) (Nat.le_of_ble_eq_true rfl) (by omega) (by omega) (fun r2 hr2 => ?_)
  refine z_genI (h1.add (x := .inl (G.2.1 5, 60, z_rs (fun _ => none))) hr2 (t0 := 2) (by decide)) (fun w2 h2 => ?_)
  refine pfX5_17 (pc := 19) rfl rfl dX5_init_19 (by first | rfl | exact z_isr_rf _) (h2.1) (Nat.le_of_ble_eq_true rfl) ?_
  refine z_genI (h2.put (e' := .inr (5, [.ref r1, .int 0, .ref r2, .int 0, .null, .null, .int 0, .null]))) (fun w2 h2 => ?_)
  refine z_aload_n (pc := 22) dX5_init_22 rfl (by first | rfl | exact z_isr_rf _) ?_
  refine z_bipush_40 (pc := 23) dX5_init_23 ?_
  refine z_newqZ (m0 := 40) (pc := 25) dX5_init_25 (by exact awX5_21) (by decide) (by decide) (Nat.le_of_ble_eq_true rfl) (by omega) (by omega) (fun r3 hr3 => ?_)
  refine z_genI (h2.add (x := .inl (G.2.1 6, 40, z_rs (fun _ => none))) hr3 (t0 := 3) (by decide)) (fun w3 h3 => ?_)
  refine pfX5_23 (pc := 28) rfl rfl dX5_init_28 (by first | rfl | exact z_isr_rf _) (h3.1) (Nat.le_of_ble_eq_true rfl) ?_
  refine z_genI (h3.put (e' := .inr (5, [.ref r1, .int 0, .ref r2, .int 0, .null, .ref r3, .int 0, .null]))) (fun w3 h3 => ?_)
  refine z_aload_n (pc := 31) dX5_init_31 rfl (by first | rfl | exact z_isr_rf _) ?_
  refine nwX5_27 (pc := 32) rfl dX5_init_32 (by omega) (by omega) (fun r4 hr4 => ?_)
  refine z_genI (h3.add (x := .inr (0, [.null])) hr4 (t0 := 4) (by decide)) (fun w4 h4 => ?_)
  refine z_dup (pc := 35) dX5_init_35 (by first | rfl | exact z_isr_cat (z_isr_rf _)) ?_
  have hb : w4 r4 = some (.inr (0, [.null])) := (h4.2.1 4 (by decide)).1
  refine z_callIN (pc := 36) (mX0_init (G := G) hb) dX5_init_36 cwX5_29 okX0_init rfl (by omega) rfl (Nat.le_of_ble_eq_true rfl) (by omega) (by omega) (fun _ _ h => h.elim) (fun v wN hN => ?_)
  obtain ⟨rfl, r, t, hr, ht, nrt, k1, k2, k3, hk⟩ := hN
  have nrb : r ≠ r4 := (z_ne hb hr).symm
  have ntb : t ≠ r4 := (z_ne hb ht).symm
  have h5 := (h4.add (x := .inr (2, [.ref t, .int 0, .int 0, .int 0])) hr (t0 := 12) (by decide))
  have h6 := (h5.add (x := .inl (G.2.1 7, 4, z_rs (fun _ => none))) ((z_upN _ _ nrt.symm).trans ht) (t0 := 13) (by decide)).set (x := .inr (0, [.ref r])) (t0 := 4) (by decide)
  have h7 := h6.of (w' := wN) (fun a ha => by
    have ha : z_up (z_up (z_up w4 r (.inr (2, [.ref t, .int 0, .int 0, .int 0]))) t (.inl (G.2.1 7, 4, z_rs (fun _ => none)))) r4 (.inr (0, [.ref r])) a ≠ none := ha
    show wN a = z_up (z_up (z_up w4 r (.inr (2, [.ref t, .int 0, .int 0, .int 0]))) t (.inl (G.2.1 7, 4, z_rs (fun _ => none)))) r4 (.inr (0, [.ref r])) a
    by_cases e1 : a = r4
    · rw [e1, z_upS]; exact k1
    · rw [z_upN _ _ e1] at ha ⊢
      by_cases e2 : a = t
      · rw [e2, z_upS]; exact k3
      · rw [z_upN _ _ e2] at ha ⊢
        by_cases e3 : a = r
        · rw [e3, z_upS]; exact k2
        · rw [z_upN _ _ e3] at ha ⊢
          exact hk a e1 ha)
  refine pfX5_30 (pc := 39) rfl rfl dX5_init_39 (by first | rfl | exact z_isr_rf _) (h7.1) (Nat.le_of_ble_eq_true rfl) ?_
  refine z_genI (h7.put (e' := .inr (5, [.ref r1, .int 0, .ref r2, .int 0, .null, .ref r3, .int 0, .ref r4]))) (fun w8 h8 => ?_)
  have hlv : ∀ k i j, z_lv (fun _ _ => 0) z_B0 k i j → k ∈ [0, 13, 12, 4, 3, 2, 1] ∧ i = 0 ∧ j = 0 := by
    intro k i j hl
    unfold z_lv at hl
    split at hl
    · exact ⟨by decide, hl⟩
    · exact ⟨by decide, hl⟩
    · exact ⟨by decide, hl⟩
    · exact ⟨by decide, hl⟩
    · exact ⟨by decide, hl⟩
    · exact absurd hl.1 (Nat.not_lt_zero _)
    · exact absurd hl.1 (Nat.not_lt_zero _)
    · exact absurd hl.1 (Nat.not_lt_zero _)
    · exact absurd hl.1 (Nat.not_lt_zero _)
    · exact absurd hl.1 (Nat.not_lt_zero _)
    · exact absurd hl.1 (Nat.not_lt_zero _)
    · exact absurd hl.1 (Nat.not_lt_zero _)
    · exact ⟨by decide, of_decide_eq_true hl⟩
    · exact ⟨by decide, of_decide_eq_true hl⟩
    · exact hl.elim
  refine z_vret (pc := 42) dX5_init_42 rfl (⟨rfl, z_A0 q (fun t_1 => if t_1 = 13 then t else if t_1 = 12 then r else if t_1 = 4 then r4 else if t_1 = 3 then r3 else if t_1 = 2 then r2 else if t_1 = 1 then r1 else 0), rfl, ⟨?_, ?_, fun _ z => z.elim⟩, h8.2.2.2.1, ?_⟩)
  · intro k i j hl
    obtain ⟨hk, rfl, rfl⟩ := hlv k i j hl
    refine ⟨?_, fun z => z.elim⟩
    rcases List.mem_cons.1 hk with rfl | hk
    · exact h8.1
    · have h9 := (h8.2.1 k hk).1
      simp only [List.mem_cons, List.not_mem_nil, or_false] at hk
      rcases hk with rfl | rfl | rfl | rfl | rfl | rfl
      · refine h9.trans ?_
        simp [z_ct, z_B0]
      · exact h9
      · exact h9
      · refine h9.trans ?_
        simp [z_ct]
      · refine h9.trans ?_
        simp [z_ct]
      · refine h9.trans ?_
        simp [z_ct]
  · intro k i j k' i' j' h h' hA
    obtain ⟨hk, rfl, rfl⟩ := hlv k i j h
    obtain ⟨hk', rfl, rfl⟩ := hlv k' i' j' h'
    refine ⟨?_, rfl, rfl⟩
    unfold z_A0 at hA
    rcases List.mem_cons.1 hk with rfl | hk <;> rcases List.mem_cons.1 hk' with rfl | hk'
    · rfl
    · rw [if_pos rfl, if_neg (by rintro rfl; simp at hk')] at hA
      exact absurd hA.symm (h8.2.1 _ hk').2.2
    · rw [if_pos rfl, if_neg (by rintro rfl; simp at hk)] at hA
      exact absurd hA (h8.2.1 _ hk).2.2
    · have h0 : ∀ x ∈ [13, 12, 4, 3, 2, 1], ¬ x = 0 := by decide
      rw [if_neg (h0 k hk), if_neg (h0 k' hk')] at hA
      exact h8.2.2.1 _ hk _ hk' hA
  · intro k i j hl
    obtain ⟨hk, rfl, rfl⟩ := hlv k i j hl
    rcases List.mem_cons.1 hk with rfl | hk
    · exact Or.inl rfl
    · refine Or.inr ?_
      unfold z_A0
      rw [if_neg (by rintro rfl; simp at hk)]
      exact (h8.2.1 _ hk).2.1
end IN2

