/-! the reference: its cells, and how a field is put -/
abbrev z_TM : Type := Nat → Nat → Int32
def z_sM (M : z_TM) (f j : Nat) (v : Int32) : z_TM := fun f' => if f' = f then upd (M f) j v else M f'
theorem z_sM_s (M : z_TM) (f j : Nat) (v : Int32) : z_sM M f j v f = upd (M f) j v := if_pos rfl
theorem z_sM_f (M : z_TM) {f f' : Nat} (j : Nat) (v : Int32) (h : f' ≠ f) : z_sM M f j v f' = M f' := if_neg h
theorem z_upd_s (f : Nat → Int32) (j : Nat) (v : Int32) : upd f j v j = v := by unfold upd; exact if_pos rfl
theorem z_upd_n (f : Nat → Int32) {i j : Nat} (v : Int32) (h : i ≠ j) : upd f j v i = f i := by unfold upd; exact if_neg h
def z_mtg : List Nat := [22, 1, 2, 3, 4, 8, 9, 10, 11, 12, 14, 15, 16, 17, 18, 19, 20]
def z_mln (k : Nat) : Nat := match k with
  | 1 => 8
  | 2 => 8
  | 3 => 40
  | 4 => 320
  | 8 => 60
  | 9 => 60
  | 10 => 60
  | 11 => 60
  | 12 => 720
  | 14 => 40
  | 15 => 40
  | 16 => 5460
  | 17 => 5460
  | 18 => 5460
  | 19 => 8
  | 20 => 8
  | _ => 0
def z_mcy (k : Nat) : Nat := if k = 4 ∨ k = 18 then 1 else 0
def z_mct (G : z_G) (A : z_TA) (M : z_TM) (k i j : Nat) : va_E := if k = 22 then .inr (6, [.int (M 0 0), .ref (A 1 0 0), .ref (A 2 0 0), .ref (A 3 0 0), .ref (A 4 0 0), .int (M 5 0), .int (M 6 0), .int (M 7 0), .ref (A 8 0 0), .ref (A 9 0 0), .ref (A 10 0 0), .ref (A 11 0 0), .ref (A 12 0 0), .int (M 13 0), .ref (A 14 0 0), .ref (A 15 0 0), .ref (A 16 0 0), .ref (A 17 0 0), .ref (A 18 0 0), .ref (A 19 0 0), .ref (A 20 0 0), .int (M 21 0)]) else .inl (G.2.1 (z_mcy k), z_mln k, .inl (M k))
def z_mlv (k i j : Nat) : Prop := k ∈ z_mtg ∧ i = 0 ∧ j = 0
def z_Mo (G : z_G) (F : Nat → Prop) (A : z_TA) (M : z_TM) (w : z_W) : Prop := z_tw z_mlv A (z_mct G A M) F w
section MO
variable {G : z_G} {F : Nat → Prop} {A : z_TA} {M : z_TM} {w : z_W}
theorem z_mct_a {k : Nat} (h : k ≠ 22) : z_mct G A M k 0 0 = .inl (G.2.1 (z_mcy k), z_mln k, .inl (M k)) := if_neg h
theorem z_Mo.k22 (h : z_Mo G F A M w) : w (A 22 0 0) = some (.inr (6, [.int (M 0 0), .ref (A 1 0 0), .ref (A 2 0 0), .ref (A 3 0 0), .ref (A 4 0 0), .int (M 5 0), .int (M 6 0), .int (M 7 0), .ref (A 8 0 0), .ref (A 9 0 0), .ref (A 10 0 0), .ref (A 11 0 0), .ref (A 12 0 0), .int (M 13 0), .ref (A 14 0 0), .ref (A 15 0 0), .ref (A 16 0 0), .ref (A 17 0 0), .ref (A 18 0 0), .ref (A 19 0 0), .ref (A 20 0 0), .int (M 21 0)])) := z_tw.at h (k := 22) ⟨by decide, rfl, rfl⟩
theorem z_Mo.k1 (h : z_Mo G F A M w) : w (A 1 0 0) = some (.inl (G.2.1 0, 8, .inl (M 1))) := z_tw.at h (k := 1) ⟨by decide, rfl, rfl⟩
theorem z_Mo.k2 (h : z_Mo G F A M w) : w (A 2 0 0) = some (.inl (G.2.1 0, 8, .inl (M 2))) := z_tw.at h (k := 2) ⟨by decide, rfl, rfl⟩
theorem z_Mo.k3 (h : z_Mo G F A M w) : w (A 3 0 0) = some (.inl (G.2.1 0, 40, .inl (M 3))) := z_tw.at h (k := 3) ⟨by decide, rfl, rfl⟩
theorem z_Mo.k4 (h : z_Mo G F A M w) : w (A 4 0 0) = some (.inl (G.2.1 1, 320, .inl (M 4))) := z_tw.at h (k := 4) ⟨by decide, rfl, rfl⟩
theorem z_Mo.k8 (h : z_Mo G F A M w) : w (A 8 0 0) = some (.inl (G.2.1 0, 60, .inl (M 8))) := z_tw.at h (k := 8) ⟨by decide, rfl, rfl⟩
theorem z_Mo.k9 (h : z_Mo G F A M w) : w (A 9 0 0) = some (.inl (G.2.1 0, 60, .inl (M 9))) := z_tw.at h (k := 9) ⟨by decide, rfl, rfl⟩
theorem z_Mo.k10 (h : z_Mo G F A M w) : w (A 10 0 0) = some (.inl (G.2.1 0, 60, .inl (M 10))) := z_tw.at h (k := 10) ⟨by decide, rfl, rfl⟩
theorem z_Mo.k11 (h : z_Mo G F A M w) : w (A 11 0 0) = some (.inl (G.2.1 0, 60, .inl (M 11))) := z_tw.at h (k := 11) ⟨by decide, rfl, rfl⟩
theorem z_Mo.k12 (h : z_Mo G F A M w) : w (A 12 0 0) = some (.inl (G.2.1 0, 720, .inl (M 12))) := z_tw.at h (k := 12) ⟨by decide, rfl, rfl⟩
theorem z_Mo.k14 (h : z_Mo G F A M w) : w (A 14 0 0) = some (.inl (G.2.1 0, 40, .inl (M 14))) := z_tw.at h (k := 14) ⟨by decide, rfl, rfl⟩
theorem z_Mo.k15 (h : z_Mo G F A M w) : w (A 15 0 0) = some (.inl (G.2.1 0, 40, .inl (M 15))) := z_tw.at h (k := 15) ⟨by decide, rfl, rfl⟩
theorem z_Mo.k16 (h : z_Mo G F A M w) : w (A 16 0 0) = some (.inl (G.2.1 0, 5460, .inl (M 16))) := z_tw.at h (k := 16) ⟨by decide, rfl, rfl⟩
theorem z_Mo.k17 (h : z_Mo G F A M w) : w (A 17 0 0) = some (.inl (G.2.1 0, 5460, .inl (M 17))) := z_tw.at h (k := 17) ⟨by decide, rfl, rfl⟩
theorem z_Mo.k18 (h : z_Mo G F A M w) : w (A 18 0 0) = some (.inl (G.2.1 1, 5460, .inl (M 18))) := z_tw.at h (k := 18) ⟨by decide, rfl, rfl⟩
theorem z_Mo.k19 (h : z_Mo G F A M w) : w (A 19 0 0) = some (.inl (G.2.1 0, 8, .inl (M 19))) := z_tw.at h (k := 19) ⟨by decide, rfl, rfl⟩
theorem z_Mo.k20 (h : z_Mo G F A M w) : w (A 20 0 0) = some (.inl (G.2.1 0, 8, .inl (M 20))) := z_tw.at h (k := 20) ⟨by decide, rfl, rfl⟩
theorem z_Mo.pa (h : z_Mo G F A M w) {f : Nat} (hf : f ∈ z_mtg) (hn : f ∉ [0, 5, 6, 7, 13, 21, 22]) (j : Nat) (v : Int32) : z_Mo G F A (z_sM M f j v) (z_up w (A f 0 0) (.inl (G.2.1 (z_mcy f), z_mln f, .inl (upd (M f) j v)))) ∧ z_fr F w (z_up w (A f 0 0) (.inl (G.2.1 (z_mcy f), z_mln f, .inl (upd (M f) j v)))) := by
  simp only [List.mem_cons, List.not_mem_nil, or_false, not_or] at hn
  obtain ⟨n0, n5, n6, n7, n13, n21, n22⟩ := hn
  refine z_tw.put h ⟨hf, rfl, rfl⟩ ?_ (fun k i j' hl hx => ?_)
  · unfold z_mct
    rw [if_neg n22, z_sM_s]
  · obtain ⟨hk, rfl, rfl⟩ := hl
    have hkf : k ≠ f := fun z => hx ⟨z, rfl, rfl⟩
    unfold z_mct
    by_cases h22 : k = 22
    · rw [if_pos h22, if_pos h22, z_sM_f _ _ _ (Ne.symm n0), z_sM_f _ _ _ (Ne.symm n5), z_sM_f _ _ _ (Ne.symm n6), z_sM_f _ _ _ (Ne.symm n7), z_sM_f _ _ _ (Ne.symm n13), z_sM_f _ _ _ (Ne.symm n21)]
    · rw [if_neg h22, if_neg h22, z_sM_f _ _ _ hkf]
theorem z_Mo.ps (h : z_Mo G F A M w) {f : Nat} (hf : f ∈ [0, 5, 6, 7, 13, 21]) (v : Int32) {e : va_E} (he : z_mct G A (z_sM M f 0 v) 22 0 0 = e) : z_Mo G F A (z_sM M f 0 v) (z_up w (A 22 0 0) e) ∧ z_fr F w (z_up w (A 22 0 0) e) := by
  refine z_tw.put h ⟨by decide, rfl, rfl⟩ he (fun k i j' hl hx => ?_)
  obtain ⟨hk, rfl, rfl⟩ := hl
  have h22 : k ≠ 22 := fun z => hx ⟨z, rfl, rfl⟩
  have hkf : k ≠ f := by
    rintro rfl
    have : ∀ k ∈ [0, 5, 6, 7, 13, 21], k ∉ z_mtg := by decide
    exact this k hf hk
  rw [z_mct_a h22, z_mct_a h22, z_sM_f _ _ _ hkf]
theorem z_Mo.p1 (h : z_Mo G F A M w) (j : Nat) (v : Int32) : z_Mo G F A (z_sM M 1 j v) (z_up w (A 1 0 0) (.inl (G.2.1 0, 8, .inl (upd (M 1) j v)))) ∧ z_fr F w (z_up w (A 1 0 0) (.inl (G.2.1 0, 8, .inl (upd (M 1) j v)))) := h.pa (by decide) (by decide) j v
theorem z_Mo.p2 (h : z_Mo G F A M w) (j : Nat) (v : Int32) : z_Mo G F A (z_sM M 2 j v) (z_up w (A 2 0 0) (.inl (G.2.1 0, 8, .inl (upd (M 2) j v)))) ∧ z_fr F w (z_up w (A 2 0 0) (.inl (G.2.1 0, 8, .inl (upd (M 2) j v)))) := h.pa (by decide) (by decide) j v
theorem z_Mo.p3 (h : z_Mo G F A M w) (j : Nat) (v : Int32) : z_Mo G F A (z_sM M 3 j v) (z_up w (A 3 0 0) (.inl (G.2.1 0, 40, .inl (upd (M 3) j v)))) ∧ z_fr F w (z_up w (A 3 0 0) (.inl (G.2.1 0, 40, .inl (upd (M 3) j v)))) := h.pa (by decide) (by decide) j v
theorem z_Mo.p4 (h : z_Mo G F A M w) (j : Nat) (v : Int32) : z_Mo G F A (z_sM M 4 j v) (z_up w (A 4 0 0) (.inl (G.2.1 1, 320, .inl (upd (M 4) j v)))) ∧ z_fr F w (z_up w (A 4 0 0) (.inl (G.2.1 1, 320, .inl (upd (M 4) j v)))) := h.pa (by decide) (by decide) j v
theorem z_Mo.p8 (h : z_Mo G F A M w) (j : Nat) (v : Int32) : z_Mo G F A (z_sM M 8 j v) (z_up w (A 8 0 0) (.inl (G.2.1 0, 60, .inl (upd (M 8) j v)))) ∧ z_fr F w (z_up w (A 8 0 0) (.inl (G.2.1 0, 60, .inl (upd (M 8) j v)))) := h.pa (by decide) (by decide) j v
theorem z_Mo.p9 (h : z_Mo G F A M w) (j : Nat) (v : Int32) : z_Mo G F A (z_sM M 9 j v) (z_up w (A 9 0 0) (.inl (G.2.1 0, 60, .inl (upd (M 9) j v)))) ∧ z_fr F w (z_up w (A 9 0 0) (.inl (G.2.1 0, 60, .inl (upd (M 9) j v)))) := h.pa (by decide) (by decide) j v
theorem z_Mo.p10 (h : z_Mo G F A M w) (j : Nat) (v : Int32) : z_Mo G F A (z_sM M 10 j v) (z_up w (A 10 0 0) (.inl (G.2.1 0, 60, .inl (upd (M 10) j v)))) ∧ z_fr F w (z_up w (A 10 0 0) (.inl (G.2.1 0, 60, .inl (upd (M 10) j v)))) := h.pa (by decide) (by decide) j v
theorem z_Mo.p11 (h : z_Mo G F A M w) (j : Nat) (v : Int32) : z_Mo G F A (z_sM M 11 j v) (z_up w (A 11 0 0) (.inl (G.2.1 0, 60, .inl (upd (M 11) j v)))) ∧ z_fr F w (z_up w (A 11 0 0) (.inl (G.2.1 0, 60, .inl (upd (M 11) j v)))) := h.pa (by decide) (by decide) j v
theorem z_Mo.p12 (h : z_Mo G F A M w) (j : Nat) (v : Int32) : z_Mo G F A (z_sM M 12 j v) (z_up w (A 12 0 0) (.inl (G.2.1 0, 720, .inl (upd (M 12) j v)))) ∧ z_fr F w (z_up w (A 12 0 0) (.inl (G.2.1 0, 720, .inl (upd (M 12) j v)))) := h.pa (by decide) (by decide) j v
theorem z_Mo.p14 (h : z_Mo G F A M w) (j : Nat) (v : Int32) : z_Mo G F A (z_sM M 14 j v) (z_up w (A 14 0 0) (.inl (G.2.1 0, 40, .inl (upd (M 14) j v)))) ∧ z_fr F w (z_up w (A 14 0 0) (.inl (G.2.1 0, 40, .inl (upd (M 14) j v)))) := h.pa (by decide) (by decide) j v
theorem z_Mo.p15 (h : z_Mo G F A M w) (j : Nat) (v : Int32) : z_Mo G F A (z_sM M 15 j v) (z_up w (A 15 0 0) (.inl (G.2.1 0, 40, .inl (upd (M 15) j v)))) ∧ z_fr F w (z_up w (A 15 0 0) (.inl (G.2.1 0, 40, .inl (upd (M 15) j v)))) := h.pa (by decide) (by decide) j v
theorem z_Mo.p16 (h : z_Mo G F A M w) (j : Nat) (v : Int32) : z_Mo G F A (z_sM M 16 j v) (z_up w (A 16 0 0) (.inl (G.2.1 0, 5460, .inl (upd (M 16) j v)))) ∧ z_fr F w (z_up w (A 16 0 0) (.inl (G.2.1 0, 5460, .inl (upd (M 16) j v)))) := h.pa (by decide) (by decide) j v
theorem z_Mo.p17 (h : z_Mo G F A M w) (j : Nat) (v : Int32) : z_Mo G F A (z_sM M 17 j v) (z_up w (A 17 0 0) (.inl (G.2.1 0, 5460, .inl (upd (M 17) j v)))) ∧ z_fr F w (z_up w (A 17 0 0) (.inl (G.2.1 0, 5460, .inl (upd (M 17) j v)))) := h.pa (by decide) (by decide) j v
theorem z_Mo.p18 (h : z_Mo G F A M w) (j : Nat) (v : Int32) : z_Mo G F A (z_sM M 18 j v) (z_up w (A 18 0 0) (.inl (G.2.1 1, 5460, .inl (upd (M 18) j v)))) ∧ z_fr F w (z_up w (A 18 0 0) (.inl (G.2.1 1, 5460, .inl (upd (M 18) j v)))) := h.pa (by decide) (by decide) j v
theorem z_Mo.p19 (h : z_Mo G F A M w) (j : Nat) (v : Int32) : z_Mo G F A (z_sM M 19 j v) (z_up w (A 19 0 0) (.inl (G.2.1 0, 8, .inl (upd (M 19) j v)))) ∧ z_fr F w (z_up w (A 19 0 0) (.inl (G.2.1 0, 8, .inl (upd (M 19) j v)))) := h.pa (by decide) (by decide) j v
theorem z_Mo.p20 (h : z_Mo G F A M w) (j : Nat) (v : Int32) : z_Mo G F A (z_sM M 20 j v) (z_up w (A 20 0 0) (.inl (G.2.1 0, 8, .inl (upd (M 20) j v)))) ∧ z_fr F w (z_up w (A 20 0 0) (.inl (G.2.1 0, 8, .inl (upd (M 20) j v)))) := h.pa (by decide) (by decide) j v
theorem z_Mo.p0 (h : z_Mo G F A M w) (v : Int32) : z_Mo G F A (z_sM M 0 0 v) (z_up w (A 22 0 0) (.inr (6, [.int v, .ref (A 1 0 0), .ref (A 2 0 0), .ref (A 3 0 0), .ref (A 4 0 0), .int (M 5 0), .int (M 6 0), .int (M 7 0), .ref (A 8 0 0), .ref (A 9 0 0), .ref (A 10 0 0), .ref (A 11 0 0), .ref (A 12 0 0), .int (M 13 0), .ref (A 14 0 0), .ref (A 15 0 0), .ref (A 16 0 0), .ref (A 17 0 0), .ref (A 18 0 0), .ref (A 19 0 0), .ref (A 20 0 0), .int (M 21 0)]))) ∧ z_fr F w (z_up w (A 22 0 0) (.inr (6, [.int v, .ref (A 1 0 0), .ref (A 2 0 0), .ref (A 3 0 0), .ref (A 4 0 0), .int (M 5 0), .int (M 6 0), .int (M 7 0), .ref (A 8 0 0), .ref (A 9 0 0), .ref (A 10 0 0), .ref (A 11 0 0), .ref (A 12 0 0), .int (M 13 0), .ref (A 14 0 0), .ref (A 15 0 0), .ref (A 16 0 0), .ref (A 17 0 0), .ref (A 18 0 0), .ref (A 19 0 0), .ref (A 20 0 0), .int (M 21 0)]))) := h.ps (by decide) v (by simp [z_mct, z_sM, upd])
theorem z_Mo.p5 (h : z_Mo G F A M w) (v : Int32) : z_Mo G F A (z_sM M 5 0 v) (z_up w (A 22 0 0) (.inr (6, [.int (M 0 0), .ref (A 1 0 0), .ref (A 2 0 0), .ref (A 3 0 0), .ref (A 4 0 0), .int v, .int (M 6 0), .int (M 7 0), .ref (A 8 0 0), .ref (A 9 0 0), .ref (A 10 0 0), .ref (A 11 0 0), .ref (A 12 0 0), .int (M 13 0), .ref (A 14 0 0), .ref (A 15 0 0), .ref (A 16 0 0), .ref (A 17 0 0), .ref (A 18 0 0), .ref (A 19 0 0), .ref (A 20 0 0), .int (M 21 0)]))) ∧ z_fr F w (z_up w (A 22 0 0) (.inr (6, [.int (M 0 0), .ref (A 1 0 0), .ref (A 2 0 0), .ref (A 3 0 0), .ref (A 4 0 0), .int v, .int (M 6 0), .int (M 7 0), .ref (A 8 0 0), .ref (A 9 0 0), .ref (A 10 0 0), .ref (A 11 0 0), .ref (A 12 0 0), .int (M 13 0), .ref (A 14 0 0), .ref (A 15 0 0), .ref (A 16 0 0), .ref (A 17 0 0), .ref (A 18 0 0), .ref (A 19 0 0), .ref (A 20 0 0), .int (M 21 0)]))) := h.ps (by decide) v (by simp [z_mct, z_sM, upd])
theorem z_Mo.p6 (h : z_Mo G F A M w) (v : Int32) : z_Mo G F A (z_sM M 6 0 v) (z_up w (A 22 0 0) (.inr (6, [.int (M 0 0), .ref (A 1 0 0), .ref (A 2 0 0), .ref (A 3 0 0), .ref (A 4 0 0), .int (M 5 0), .int v, .int (M 7 0), .ref (A 8 0 0), .ref (A 9 0 0), .ref (A 10 0 0), .ref (A 11 0 0), .ref (A 12 0 0), .int (M 13 0), .ref (A 14 0 0), .ref (A 15 0 0), .ref (A 16 0 0), .ref (A 17 0 0), .ref (A 18 0 0), .ref (A 19 0 0), .ref (A 20 0 0), .int (M 21 0)]))) ∧ z_fr F w (z_up w (A 22 0 0) (.inr (6, [.int (M 0 0), .ref (A 1 0 0), .ref (A 2 0 0), .ref (A 3 0 0), .ref (A 4 0 0), .int (M 5 0), .int v, .int (M 7 0), .ref (A 8 0 0), .ref (A 9 0 0), .ref (A 10 0 0), .ref (A 11 0 0), .ref (A 12 0 0), .int (M 13 0), .ref (A 14 0 0), .ref (A 15 0 0), .ref (A 16 0 0), .ref (A 17 0 0), .ref (A 18 0 0), .ref (A 19 0 0), .ref (A 20 0 0), .int (M 21 0)]))) := h.ps (by decide) v (by simp [z_mct, z_sM, upd])
theorem z_Mo.p7 (h : z_Mo G F A M w) (v : Int32) : z_Mo G F A (z_sM M 7 0 v) (z_up w (A 22 0 0) (.inr (6, [.int (M 0 0), .ref (A 1 0 0), .ref (A 2 0 0), .ref (A 3 0 0), .ref (A 4 0 0), .int (M 5 0), .int (M 6 0), .int v, .ref (A 8 0 0), .ref (A 9 0 0), .ref (A 10 0 0), .ref (A 11 0 0), .ref (A 12 0 0), .int (M 13 0), .ref (A 14 0 0), .ref (A 15 0 0), .ref (A 16 0 0), .ref (A 17 0 0), .ref (A 18 0 0), .ref (A 19 0 0), .ref (A 20 0 0), .int (M 21 0)]))) ∧ z_fr F w (z_up w (A 22 0 0) (.inr (6, [.int (M 0 0), .ref (A 1 0 0), .ref (A 2 0 0), .ref (A 3 0 0), .ref (A 4 0 0), .int (M 5 0), .int (M 6 0), .int v, .ref (A 8 0 0), .ref (A 9 0 0), .ref (A 10 0 0), .ref (A 11 0 0), .ref (A 12 0 0), .int (M 13 0), .ref (A 14 0 0), .ref (A 15 0 0), .ref (A 16 0 0), .ref (A 17 0 0), .ref (A 18 0 0), .ref (A 19 0 0), .ref (A 20 0 0), .int (M 21 0)]))) := h.ps (by decide) v (by simp [z_mct, z_sM, upd])
theorem z_Mo.p13 (h : z_Mo G F A M w) (v : Int32) : z_Mo G F A (z_sM M 13 0 v) (z_up w (A 22 0 0) (.inr (6, [.int (M 0 0), .ref (A 1 0 0), .ref (A 2 0 0), .ref (A 3 0 0), .ref (A 4 0 0), .int (M 5 0), .int (M 6 0), .int (M 7 0), .ref (A 8 0 0), .ref (A 9 0 0), .ref (A 10 0 0), .ref (A 11 0 0), .ref (A 12 0 0), .int v, .ref (A 14 0 0), .ref (A 15 0 0), .ref (A 16 0 0), .ref (A 17 0 0), .ref (A 18 0 0), .ref (A 19 0 0), .ref (A 20 0 0), .int (M 21 0)]))) ∧ z_fr F w (z_up w (A 22 0 0) (.inr (6, [.int (M 0 0), .ref (A 1 0 0), .ref (A 2 0 0), .ref (A 3 0 0), .ref (A 4 0 0), .int (M 5 0), .int (M 6 0), .int (M 7 0), .ref (A 8 0 0), .ref (A 9 0 0), .ref (A 10 0 0), .ref (A 11 0 0), .ref (A 12 0 0), .int v, .ref (A 14 0 0), .ref (A 15 0 0), .ref (A 16 0 0), .ref (A 17 0 0), .ref (A 18 0 0), .ref (A 19 0 0), .ref (A 20 0 0), .int (M 21 0)]))) := h.ps (by decide) v (by simp [z_mct, z_sM, upd])
theorem z_Mo.p21 (h : z_Mo G F A M w) (v : Int32) : z_Mo G F A (z_sM M 21 0 v) (z_up w (A 22 0 0) (.inr (6, [.int (M 0 0), .ref (A 1 0 0), .ref (A 2 0 0), .ref (A 3 0 0), .ref (A 4 0 0), .int (M 5 0), .int (M 6 0), .int (M 7 0), .ref (A 8 0 0), .ref (A 9 0 0), .ref (A 10 0 0), .ref (A 11 0 0), .ref (A 12 0 0), .int (M 13 0), .ref (A 14 0 0), .ref (A 15 0 0), .ref (A 16 0 0), .ref (A 17 0 0), .ref (A 18 0 0), .ref (A 19 0 0), .ref (A 20 0 0), .int v]))) ∧ z_fr F w (z_up w (A 22 0 0) (.inr (6, [.int (M 0 0), .ref (A 1 0 0), .ref (A 2 0 0), .ref (A 3 0 0), .ref (A 4 0 0), .int (M 5 0), .int (M 6 0), .int (M 7 0), .ref (A 8 0 0), .ref (A 9 0 0), .ref (A 10 0 0), .ref (A 11 0 0), .ref (A 12 0 0), .int (M 13 0), .ref (A 14 0 0), .ref (A 15 0 0), .ref (A 16 0 0), .ref (A 17 0 0), .ref (A 18 0 0), .ref (A 19 0 0), .ref (A 20 0 0), .int v]))) := h.ps (by decide) v (by simp [z_mct, z_sM, upd])
theorem z_genM {Y : z_Mi} {d : Nat} {Z : z_Gq} {pc : Nat} {L : List (Option Value)} {st : List Value} {w0 : z_W} {k n : Nat} (h : z_Mo G F A M w ∧ z_fr F w0 w) (kk : ∀ w', z_Mo G F A M w' → z_fr F w0 w' → z_E G Y d Z pc L st w' k n) : z_E G Y d Z pc L st w k n := kk w h.1 h.2
/-- what a call of the reference leaves -/
def z_sm (G : z_G) (F : Nat → Prop) (A : z_TA) (M' : z_TM) (w0 : z_W) (r : Option Value) : Option Value → z_W → Prop := fun v w' => v = r ∧ z_Mo G F A M' w' ∧ z_fr F w0 w'
end MO
section MI
variable {G : z_G} {w : z_W}
theorem mX6_init {q : Nat} (hq : w q = some (.inr (6, [.int 0, .null, .null, .null, .null, .int 0, .int 0, .int 0, .null, .null, .null, .null, .null, .int 0, .null, .null, .null, .null, .null, .null, .null, .int 0]))) : z_M G zX6_init 1 [.ref q] w 16 17828 (fun v w' => v = none ∧ ∃ A, A 22 0 0 = q ∧ z_Mo G (fun _ => False) A (fun _ _ => 0) w' ∧ z_kp q w w' ∧ (∀ k, k ∈ z_mtg → A k 0 0 = q ∨ w (A k 0 0) = none)) z_nx := by
  refine z_M.of (by decide +kernel) rfl (by intro v hv; simp only [List.mem_cons, List.not_mem_nil, or_false] at hv; rcases hv with rfl <;> first | rfl | exact z_isr_cat (z_isr_rf _)) (Nat.le_of_ble_eq_true rfl) ?_
  show z_E _ zX6_init _ _ 0 [some (.ref q)] [] _ _ _
  refine z_aload_n (pc := 0) dX6_init_0 rfl (by first | rfl | exact z_isr_rf _) ?_
  refine oiX6_1 (pc := 1) rfl dX6_init_1 (by omega) (Nat.le_of_ble_eq_true rfl) ?_
  refine z_aload_n (pc := 4) dX6_init_4 rfl (by first | rfl | exact z_isr_rf _) ?_
  refine z_bipush_8 (pc := 5) dX6_init_5 ?_
  refine z_newaI (m0 := 8) (pc := 7) dX6_init_7 ac_int (by decide) (by decide) (Nat.le_of_ble_eq_true rfl) (by omega) (by omega) (fun r1 hr1 => ?_)
  refine z_genI ((z_iv.rf (A := fun _ => 0) (ct := fun _ => .inl (0, 0, .inl fun _ => 0)) hq).add (x := .inl (G.2.1 0, 8, .inl (fun _ => 0))) hr1 (t0 := 1) (by decide)) (fun w1 h1 => ?_)
  refine pfX6_7 (pc := 9) rfl rfl dX6_init_9 (by first | rfl | exact z_isr_rf _) (h1.1) (Nat.le_of_ble_eq_true rfl) ?_
  refine z_genI (h1.put (e' := .inr (6, [.int 0, .ref r1, .null, .null, .null, .int 0, .int 0, .int 0, .null, .null, .null, .null, .null, .int 0, .null, .null, .null, .null, .null, .null, .null, .int 0]))) (fun w1 h1 => ?_)
  refine z_aload_n (pc := 12) dX6_init_12 rfl (by first | rfl | exact z_isr_rf _) ?_
  refine z_bipush_8 (pc := 13) dX6_init_13 ?_
  refine z_newaI (m0 := 8) (pc := 15) dX6_init_15 ac_int (by decide) (by decide) (Nat.le_of_ble_eq_true rfl) (by omega) (by omega) (fun r2 hr2 => ?_)
  refine z_genI (h1.add (x := .inl (G.2.1 0, 8, .inl (fun _ => 0))) hr2 (t0 := 2) (by decide)) (fun w1 h1 => ?_)
  refine pfX6_13 (pc := 17) rfl rfl dX6_init_17 (by first | rfl | exact z_isr_rf _) (h1.1) (Nat.le_of_ble_eq_true rfl) ?_
  refine z_genI (h1.put (e' := .inr (6, [.int 0, .ref r1, .ref r2, .null, .null, .int 0, .int 0, .int 0, .null, .null, .null, .null, .null, .int 0, .null, .null, .null, .null, .null, .null, .null, .int 0]))) (fun w1 h1 => ?_)
  refine z_aload_n (pc := 20) dX6_init_20 rfl (by first | rfl | exact z_isr_rf _) ?_
  refine z_bipush_40 (pc := 21) dX6_init_21 ?_
  refine z_newaI (m0 := 40) (pc := 23) dX6_init_23 ac_int (by decide) (by decide) (Nat.le_of_ble_eq_true rfl) (by omega) (by omega) (fun r3 hr3 => ?_)
  refine z_genI (h1.add (x := .inl (G.2.1 0, 40, .inl (fun _ => 0))) hr3 (t0 := 3) (by decide)) (fun w1 h1 => ?_)
  refine pfX6_16 (pc := 25) rfl rfl dX6_init_25 (by first | rfl | exact z_isr_rf _) (h1.1) (Nat.le_of_ble_eq_true rfl) ?_
  refine z_genI (h1.put (e' := .inr (6, [.int 0, .ref r1, .ref r2, .ref r3, .null, .int 0, .int 0, .int 0, .null, .null, .null, .null, .null, .int 0, .null, .null, .null, .null, .null, .null, .null, .int 0]))) (fun w1 h1 => ?_)
  refine z_aload_n (pc := 28) dX6_init_28 rfl (by first | rfl | exact z_isr_rf _) ?_
  refine z_sipush_320 (pc := 29) dX6_init_29 ?_
  refine z_newaZ (m0 := 320) (pc := 32) dX6_init_32 ac_boolean (by decide) (by decide) (Nat.le_of_ble_eq_true rfl) (by omega) (by omega) (fun r4 hr4 => ?_)
  refine z_genI (h1.add (x := .inl (G.2.1 1, 320, .inl (fun _ => 0))) hr4 (t0 := 4) (by decide)) (fun w1 h1 => ?_)
  refine pfX6_19 (pc := 34) rfl rfl dX6_init_34 (by first | rfl | exact z_isr_rf _) (h1.1) (Nat.le_of_ble_eq_true rfl) ?_
  refine z_genI (h1.put (e' := .inr (6, [.int 0, .ref r1, .ref r2, .ref r3, .ref r4, .int 0, .int 0, .int 0, .null, .null, .null, .null, .null, .int 0, .null, .null, .null, .null, .null, .null, .null, .int 0]))) (fun w1 h1 => ?_)
  refine z_aload_n (pc := 37) dX6_init_37 rfl (by first | rfl | exact z_isr_rf _) ?_
  refine z_bipush_60 (pc := 38) dX6_init_38 ?_
  refine z_newaI (m0 := 60) (pc := 40) dX6_init_40 ac_int (by decide) (by decide) (Nat.le_of_ble_eq_true rfl) (by omega) (by omega) (fun r8 hr8 => ?_)
  refine z_genI (h1.add (x := .inl (G.2.1 0, 60, .inl (fun _ => 0))) hr8 (t0 := 8) (by decide)) (fun w1 h1 => ?_)
  refine pfX6_23 (pc := 42) rfl rfl dX6_init_42 (by first | rfl | exact z_isr_rf _) (h1.1) (Nat.le_of_ble_eq_true rfl) ?_
  refine z_genI (h1.put (e' := .inr (6, [.int 0, .ref r1, .ref r2, .ref r3, .ref r4, .int 0, .int 0, .int 0, .ref r8, .null, .null, .null, .null, .int 0, .null, .null, .null, .null, .null, .null, .null, .int 0]))) (fun w1 h1 => ?_)
  refine z_aload_n (pc := 45) dX6_init_45 rfl (by first | rfl | exact z_isr_rf _) ?_
  refine z_bipush_60 (pc := 46) dX6_init_46 ?_
  refine z_newaI (m0 := 60) (pc := 48) dX6_init_48 ac_int (by decide) (by decide) (Nat.le_of_ble_eq_true rfl) (by omega) (by omega) (fun r9 hr9 => ?_)
  refine z_genI (h1.add (x := .inl (G.2.1 0, 60, .inl (fun _ => 0))) hr9 (t0 := 9) (by decide)) (fun w1 h1 => ?_)
  refine pfX6_26 (pc := 50) rfl rfl dX6_init_50 (by first | rfl | exact z_isr_rf _) (h1.1) (Nat.le_of_ble_eq_true rfl) ?_
  refine z_genI (h1.put (e' := .inr (6, [.int 0, .ref r1, .ref r2, .ref r3, .ref r4, .int 0, .int 0, .int 0, .ref r8, .ref r9, .null, .null, .null, .int 0, .null, .null, .null, .null, .null, .null, .null, .int 0]))) (fun w1 h1 => ?_)
  refine z_aload_n (pc := 53) dX6_init_53 rfl (by first | rfl | exact z_isr_rf _) ?_
  refine z_bipush_60 (pc := 54) dX6_init_54 ?_
  refine z_newaI (m0 := 60) (pc := 56) dX6_init_56 ac_int (by decide) (by decide) (Nat.le_of_ble_eq_true rfl) (by omega) (by omega) (fun r10 hr10 => ?_)
  refine z_genI (h1.add (x := .inl (G.2.1 0, 60, .inl (fun _ => 0))) hr10 (t0 := 10) (by decide)) (fun w1 h1 => ?_)
  refine pfX6_29 (pc := 58) rfl rfl dX6_init_58 (by first | rfl | exact z_isr_rf _) (h1.1) (Nat.le_of_ble_eq_true rfl) ?_
  refine z_genI (h1.put (e' := .inr (6, [.int 0, .ref r1, .ref r2, .ref r3, .ref r4, .int 0, .int 0, .int 0, .ref r8, .ref r9, .ref r10, .null, .null, .int 0, .null, .null, .null, .null, .null, .null, .null, .int 0]))) (fun w1 h1 => ?_)
  refine z_aload_n (pc := 61) dX6_init_61 rfl (by first | rfl | exact z_isr_rf _) ?_
  refine z_bipush_60 (pc := 62) dX6_init_62 ?_
  refine z_newaI (m0 := 60) (pc := 64) dX6_init_64 ac_int (by decide) (by decide) (Nat.le_of_ble_eq_true rfl) (by omega) (by omega) (fun r11 hr11 => ?_)
  refine z_genI (h1.add (x := .inl (G.2.1 0, 60, .inl (fun _ => 0))) hr11 (t0 := 11) (by decide)) (fun w1 h1 => ?_)
  refine pfX6_32 (pc := 66) rfl rfl dX6_init_66 (by first | rfl | exact z_isr_rf _) (h1.1) (Nat.le_of_ble_eq_true rfl) ?_
  refine z_genI (h1.put (e' := .inr (6, [.int 0, .ref r1, .ref r2, .ref r3, .ref r4, .int 0, .int 0, .int 0, .ref r8, .ref r9, .ref r10, .ref r11, .null, .int 0, .null, .null, .null, .null, .null, .null, .null, .int 0]))) (fun w1 h1 => ?_)
  refine z_aload_n (pc := 69) dX6_init_69 rfl (by first | rfl | exact z_isr_rf _) ?_
  refine z_sipush_720 (pc := 70) dX6_init_70 ?_
  refine z_newaI (m0 := 720) (pc := 73) dX6_init_73 ac_int (by decide) (by decide) (Nat.le_of_ble_eq_true rfl) (by omega) (by omega) (fun r12 hr12 => ?_)
  refine z_genI (h1.add (x := .inl (G.2.1 0, 720, .inl (fun _ => 0))) hr12 (t0 := 12) (by decide)) (fun w1 h1 => ?_)
  refine pfX6_35 (pc := 75) rfl rfl dX6_init_75 (by first | rfl | exact z_isr_rf _) (h1.1) (Nat.le_of_ble_eq_true rfl) ?_
  refine z_genI (h1.put (e' := .inr (6, [.int 0, .ref r1, .ref r2, .ref r3, .ref r4, .int 0, .int 0, .int 0, .ref r8, .ref r9, .ref r10, .ref r11, .ref r12, .int 0, .null, .null, .null, .null, .null, .null, .null, .int 0]))) (fun w1 h1 => ?_)
  refine z_aload_n (pc := 78) dX6_init_78 rfl (by first | rfl | exact z_isr_rf _) ?_
  refine z_bipush_40 (pc := 79) dX6_init_79 ?_
  refine z_newaI (m0 := 40) (pc := 81) dX6_init_81 ac_int (by decide) (by decide) (Nat.le_of_ble_eq_true rfl) (by omega) (by omega) (fun r14 hr14 => ?_)
  refine z_genI (h1.add (x := .inl (G.2.1 0, 40, .inl (fun _ => 0))) hr14 (t0 := 14) (by decide)) (fun w1 h1 => ?_)
  refine pfX6_38 (pc := 83) rfl rfl dX6_init_83 (by first | rfl | exact z_isr_rf _) (h1.1) (Nat.le_of_ble_eq_true rfl) ?_
  refine z_genI (h1.put (e' := .inr (6, [.int 0, .ref r1, .ref r2, .ref r3, .ref r4, .int 0, .int 0, .int 0, .ref r8, .ref r9, .ref r10, .ref r11, .ref r12, .int 0, .ref r14, .null, .null, .null, .null, .null, .null, .int 0]))) (fun w1 h1 => ?_)
  refine z_aload_n (pc := 86) dX6_init_86 rfl (by first | rfl | exact z_isr_rf _) ?_
  refine z_bipush_40 (pc := 87) dX6_init_87 ?_
  refine z_newaI (m0 := 40) (pc := 89) dX6_init_89 ac_int (by decide) (by decide) (Nat.le_of_ble_eq_true rfl) (by omega) (by omega) (fun r15 hr15 => ?_)
  refine z_genI (h1.add (x := .inl (G.2.1 0, 40, .inl (fun _ => 0))) hr15 (t0 := 15) (by decide)) (fun w1 h1 => ?_)
  refine pfX6_41 (pc := 91) rfl rfl dX6_init_91 (by first | rfl | exact z_isr_rf _) (h1.1) (Nat.le_of_ble_eq_true rfl) ?_
  refine z_genI (h1.put (e' := .inr (6, [.int 0, .ref r1, .ref r2, .ref r3, .ref r4, .int 0, .int 0, .int 0, .ref r8, .ref r9, .ref r10, .ref r11, .ref r12, .int 0, .ref r14, .ref r15, .null, .null, .null, .null, .null, .int 0]))) (fun w1 h1 => ?_)
  refine z_aload_n (pc := 94) dX6_init_94 rfl (by first | rfl | exact z_isr_rf _) ?_
  refine z_sipush_5460 (pc := 95) dX6_init_95 ?_
  refine z_newaI (m0 := 5460) (pc := 98) dX6_init_98 ac_int (by decide) (by decide) (Nat.le_of_ble_eq_true rfl) (by omega) (by omega) (fun r16 hr16 => ?_)
  refine z_genI (h1.add (x := .inl (G.2.1 0, 5460, .inl (fun _ => 0))) hr16 (t0 := 16) (by decide)) (fun w1 h1 => ?_)
  refine pfX6_44 (pc := 100) rfl rfl dX6_init_100 (by first | rfl | exact z_isr_rf _) (h1.1) (Nat.le_of_ble_eq_true rfl) ?_
  refine z_genI (h1.put (e' := .inr (6, [.int 0, .ref r1, .ref r2, .ref r3, .ref r4, .int 0, .int 0, .int 0, .ref r8, .ref r9, .ref r10, .ref r11, .ref r12, .int 0, .ref r14, .ref r15, .ref r16, .null, .null, .null, .null, .int 0]))) (fun w1 h1 => ?_)
  refine z_aload_n (pc := 103) dX6_init_103 rfl (by first | rfl | exact z_isr_rf _) ?_
  refine z_sipush_5460 (pc := 104) dX6_init_104 ?_
  refine z_newaI (m0 := 5460) (pc := 107) dX6_init_107 ac_int (by decide) (by decide) (Nat.le_of_ble_eq_true rfl) (by omega) (by omega) (fun r17 hr17 => ?_)
  refine z_genI (h1.add (x := .inl (G.2.1 0, 5460, .inl (fun _ => 0))) hr17 (t0 := 17) (by decide)) (fun w1 h1 => ?_)
  refine pfX6_47 (pc := 109) rfl rfl dX6_init_109 (by first | rfl | exact z_isr_rf _) (h1.1) (Nat.le_of_ble_eq_true rfl) ?_
  refine z_genI (h1.put (e' := .inr (6, [.int 0, .ref r1, .ref r2, .ref r3, .ref r4, .int 0, .int 0, .int 0, .ref r8, .ref r9, .ref r10, .ref r11, .ref r12, .int 0, .ref r14, .ref r15, .ref r16, .ref r17, .null, .null, .null, .int 0]))) (fun w1 h1 => ?_)
  refine z_aload_n (pc := 112) dX6_init_112 rfl (by first | rfl | exact z_isr_rf _) ?_
  refine z_sipush_5460 (pc := 113) dX6_init_113 ?_
  refine z_newaZ (m0 := 5460) (pc := 116) dX6_init_116 ac_boolean (by decide) (by decide) (Nat.le_of_ble_eq_true rfl) (by omega) (by omega) (fun r18 hr18 => ?_)
  refine z_genI (h1.add (x := .inl (G.2.1 1, 5460, .inl (fun _ => 0))) hr18 (t0 := 18) (by decide)) (fun w1 h1 => ?_)
  refine pfX6_50 (pc := 118) rfl rfl dX6_init_118 (by first | rfl | exact z_isr_rf _) (h1.1) (Nat.le_of_ble_eq_true rfl) ?_
  refine z_genI (h1.put (e' := .inr (6, [.int 0, .ref r1, .ref r2, .ref r3, .ref r4, .int 0, .int 0, .int 0, .ref r8, .ref r9, .ref r10, .ref r11, .ref r12, .int 0, .ref r14, .ref r15, .ref r16, .ref r17, .ref r18, .null, .null, .int 0]))) (fun w1 h1 => ?_)
  refine z_aload_n (pc := 121) dX6_init_121 rfl (by first | rfl | exact z_isr_rf _) ?_
  refine z_bipush_8 (pc := 122) dX6_init_122 ?_
  refine z_newaI (m0 := 8) (pc := 124) dX6_init_124 ac_int (by decide) (by decide) (Nat.le_of_ble_eq_true rfl) (by omega) (by omega) (fun r19 hr19 => ?_)
  refine z_genI (h1.add (x := .inl (G.2.1 0, 8, .inl (fun _ => 0))) hr19 (t0 := 19) (by decide)) (fun w1 h1 => ?_)
  refine pfX6_53 (pc := 126) rfl rfl dX6_init_126 (by first | rfl | exact z_isr_rf _) (h1.1) (Nat.le_of_ble_eq_true rfl) ?_
  refine z_genI (h1.put (e' := .inr (6, [.int 0, .ref r1, .ref r2, .ref r3, .ref r4, .int 0, .int 0, .int 0, .ref r8, .ref r9, .ref r10, .ref r11, .ref r12, .int 0, .ref r14, .ref r15, .ref r16, .ref r17, .ref r18, .ref r19, .null, .int 0]))) (fun w1 h1 => ?_)
  refine z_aload_n (pc := 129) dX6_init_129 rfl (by first | rfl | exact z_isr_rf _) ?_
  refine z_bipush_8 (pc := 130) dX6_init_130 ?_
  refine z_newaI (m0 := 8) (pc := 132) dX6_init_132 ac_int (by decide) (by decide) (Nat.le_of_ble_eq_true rfl) (by omega) (by omega) (fun r20 hr20 => ?_)
  refine z_genI (h1.add (x := .inl (G.2.1 0, 8, .inl (fun _ => 0))) hr20 (t0 := 20) (by decide)) (fun w1 h1 => ?_)
  refine pfX6_56 (pc := 134) rfl rfl dX6_init_134 (by first | rfl | exact z_isr_rf _) (h1.1) (Nat.le_of_ble_eq_true rfl) ?_
  refine z_genI (h1.put (e' := .inr (6, [.int 0, .ref r1, .ref r2, .ref r3, .ref r4, .int 0, .int 0, .int 0, .ref r8, .ref r9, .ref r10, .ref r11, .ref r12, .int 0, .ref r14, .ref r15, .ref r16, .ref r17, .ref r18, .ref r19, .ref r20, .int 0]))) (fun w1 h1 => ?_)
  refine z_vret (pc := 137) dX6_init_137 rfl (⟨rfl, fun k _ _ => if k = 22 then q else (fun t_1 => if t_1 = 20 then r20 else if t_1 = 19 then r19 else if t_1 = 18 then r18 else if t_1 = 17 then r17 else if t_1 = 16 then r16 else if t_1 = 15 then r15 else if t_1 = 14 then r14 else if t_1 = 12 then r12 else if t_1 = 11 then r11 else if t_1 = 10 then r10 else if t_1 = 9 then r9 else if t_1 = 8 then r8 else if t_1 = 4 then r4 else if t_1 = 3 then r3 else if t_1 = 2 then r2 else if t_1 = 1 then r1 else 0) k, rfl, ⟨?_, ?_, fun _ z => z.elim⟩, h1.2.2.2.1, ?_⟩)
  · intro k i j hl
    obtain ⟨hk, rfl, rfl⟩ := hl
    refine ⟨?_, fun z => z.elim⟩
    rcases List.mem_cons.1 hk with rfl | hk
    · exact h1.1
    · have hk2 : k ∈ [20, 19, 18, 17, 16, 15, 14, 12, 11, 10, 9, 8, 4, 3, 2, 1] := by revert hk; revert k; decide
      have h9 := (h1.2.1 k hk2).1
      simp only [List.mem_cons, List.not_mem_nil, or_false] at hk
      rcases hk with rfl | rfl | rfl | rfl | rfl | rfl | rfl | rfl | rfl | rfl | rfl | rfl | rfl | rfl | rfl | rfl <;> exact h9
  · intro k i j k' i' j' h h' hA
    obtain ⟨hk, rfl, rfl⟩ := h
    obtain ⟨hk', rfl, rfl⟩ := h'
    refine ⟨?_, rfl, rfl⟩
    have hin : ∀ k, k ∈ [1, 2, 3, 4, 8, 9, 10, 11, 12, 14, 15, 16, 17, 18, 19, 20] → k ∈ [20, 19, 18, 17, 16, 15, 14, 12, 11, 10, 9, 8, 4, 3, 2, 1] ∧ ¬ k = 22 := by decide
    dsimp only at hA
    rcases List.mem_cons.1 hk with rfl | hk <;> rcases List.mem_cons.1 hk' with rfl | hk'
    · rfl
    · rw [if_pos rfl, if_neg (hin k' hk').2] at hA
      exact absurd hA.symm (h1.2.1 k' (hin k' hk').1).2.2
    · rw [if_pos rfl, if_neg (hin k hk).2] at hA
      exact absurd hA (h1.2.1 k (hin k hk).1).2.2
    · rw [if_neg (hin k hk).2, if_neg (hin k' hk').2] at hA
      exact h1.2.2.1 k (hin k hk).1 k' (hin k' hk').1 hA
  · intro k hk
    have hin : ∀ k, k ∈ [1, 2, 3, 4, 8, 9, 10, 11, 12, 14, 15, 16, 17, 18, 19, 20] → k ∈ [20, 19, 18, 17, 16, 15, 14, 12, 11, 10, 9, 8, 4, 3, 2, 1] ∧ ¬ k = 22 := by decide
    dsimp only
    rcases List.mem_cons.1 hk with rfl | hk
    · exact Or.inl rfl
    · rw [if_neg (hin k hk).2]
      exact Or.inr (h1.2.1 k (hin k hk).1).2.1
end MI

