/-! what is dropped, line by line; the shape of the book kept -/
section DR
variable {mv : Nat → Nat} {I1 : z_TI} {B1 : z_TB} {kn : Nat}
theorem z_db_h (h6 : kn ≤ 6) (hmv : ∀ i, i < kn → mv i < 4) (hB : ∀ n, 0 < n → n ≤ kn → (∀ k, 0 < k → k < n → I1 13 k (z_px mv k) = 0) → B1 n (z_px mv n) = true) (h01 : ∀ n l, 1 ≤ n → n ≤ 6 → l < 4 ^ n → (I1 13 n l = 0 ∨ I1 13 n l = 1)) (hnb : ∀ n l, 1 ≤ n → n ≤ 6 → l < 4 ^ n → (∀ k, 1 ≤ k → k ≤ n → I1 13 k (l % 4 ^ k) = 0) → ¬ (n ≤ kn ∧ l = z_px mv n) → ¬ z_bd I1 n l) :
    (∀ n l, 1 ≤ n → n ≤ 6 → l < 4 ^ n → (z_db mv kn I1 B1 0 13 n l ≠ 0 ↔ (I1 13 n l ≠ 0 ∨ (z_bd I1 n l ∧ ∀ k, 1 ≤ k → k < n → z_db mv kn I1 B1 0 13 k (l % 4 ^ k) = 0)))) ∧ (∀ n l, 1 ≤ n → n ≤ 6 → l < 4 ^ n → (z_db mv kn I1 B1 0 13 n l = 0 ∨ z_db mv kn I1 B1 0 13 n l = 1)) ∧ (∀ f, f ≠ 13 → z_db mv kn I1 B1 0 f = I1 f) := by
  have hal : ∀ n l, l < 4 ^ n → (∀ k, 1 ≤ k → k < n → I1 13 k (l % 4 ^ k) = 0) → I1 13 n l = 0 → ∀ k, 1 ≤ k → k ≤ n → I1 13 k (l % 4 ^ k) = 0 := fun n l hl h h0 k a b => by
    by_cases q : k = n
    · rw [q, Nat.mod_eq_of_lt hl]; exact h0
    · exact h k a (by omega)
  rcases z_db_s (mv := mv) (I := I1) (B := B1) kn 0 (fun n a b c => hB n a (by omega) c) with ⟨e, h⟩ | ⟨d, d1, d2, e, h4, h5, h7⟩
  · rw [e]
    refine ⟨fun n l a b c => ⟨Or.inl, ?_⟩, h01, fun _ _ => rfl⟩
    rintro (q | ⟨q1, q2⟩)
    · exact q
    · intro h0
      have al := hal n l c q2 h0
      by_cases hp : n ≤ kn ∧ l = z_px mv n
      · obtain ⟨hp1, rfl⟩ := hp
        refine h n a (by omega) (fun k x y => ?_) q1
        have := al k x y
        rw [z_px_le hmv n y hp1] at this
        exact this
      · exact hnb n l a b c al hp q1
  · rw [e]
    have ed : ∀ n l, ¬ (n = d ∧ l = z_px mv d) → z_sI I1 13 d (z_px mv d) 1 13 n l = I1 13 n l := fun n l q => z_sI_ne _ _ (fun z => q z.2)
    refine ⟨fun n l a b c => ?_, fun n l a b c => ?_, fun f hf => z_sI_f _ _ _ _ hf⟩
    · by_cases q : n = d ∧ l = z_px mv d
      · obtain ⟨rfl, rfl⟩ := q
        rw [z_sI_s]
        refine ⟨fun _ => Or.inr ⟨h5, fun k x y => ?_⟩, fun _ => by decide⟩
        rw [z_px_le hmv n (Nat.le_of_lt y) (by omega), ed _ _ (fun z => by omega)]
        exact h4 k x (by omega)
      · rw [ed _ _ q]
        refine ⟨Or.inl, ?_⟩
        rintro (r | ⟨q1, q2⟩)
        · exact r
        · intro h0
          have hlow : ∀ k, 1 ≤ k → k < n → I1 13 k (l % 4 ^ k) = 0 ∧ ¬ (k = d ∧ l % 4 ^ k = z_px mv d) := fun k x y => by
            have := q2 k x y
            by_cases z : k = d ∧ l % 4 ^ k = z_px mv d
            · rw [z.2, z.1, z_sI_s] at this
              exact absurd this (by decide)
            · rw [ed _ _ z] at this
              exact ⟨this, z⟩
          have al := hal n l c (fun k x y => (hlow k x y).1) h0
          by_cases hp : n ≤ kn ∧ l = z_px mv n
          · obtain ⟨hp1, rfl⟩ := hp
            by_cases z : n < d
            · exact h7 n a z q1
            · by_cases z2 : n = d
              · exact q ⟨z2, by rw [z2]⟩
              · exact (hlow d d1 (by omega)).2 ⟨rfl, z_px_le hmv n (by omega) hp1⟩
          · exact hnb n l a b c al hp q1
    · by_cases q : n = d ∧ l = z_px mv d
      · rw [q.1, q.2, z_sI_s]; exact Or.inr rfl
      · rw [ed _ _ q]; exact h01 n l a b c
theorem z_ar_S {N : z_TN} {O : z_TO} {r : Int32} {n : Nat} (hmv : ∀ i, i < n → mv i < 4) (h6 : n ≤ 6) : ∀ (m : Nat) (I : z_TI) (B : z_TB) (i : Nat), i + m ≤ n → z_S N O B → z_Z I B → B i (z_px mv i) = true → z_S N O (z_ar mv r m I B i).2 ∧ z_Z (z_ar mv r m I B i).1 (z_ar mv r m I B i).2
  | 0, _, _, _, _, hS, hZ, _ => ⟨hS, hZ⟩
  | m + 1, I, B, i, hi, hS, hZ, hB => by
    have hp := z_px_lt hmv (i + 1) (by omega)
    have hS2 : z_S N O (z_sB B (i + 1) (z_px mv (i + 1))) := hS.addB (by omega) hp (by rw [z_px_mod hmv (by omega)]; exact hB)
    have hZ2 := hZ.addB (i + 1) (z_px mv (i + 1))
    rw [z_ar]
    split
    · exact z_ar_S hmv h6 m _ _ (i + 1) (by omega) hS2 ((hZ2.putI (z_sB_s _ _ _) _).putI (z_sB_s _ _ _) _) (z_sB_s _ _ _)
    · exact ⟨hS2, hZ2⟩
theorem z_db_Z : ∀ (m i : Nat), z_Z I1 B1 → z_Z (z_db mv m I1 B1 i) B1
  | 0, _, h => h
  | m + 1, i, h => by
    rw [z_db]
    split
    · rename_i q
      by_cases hb : bad (I1 11 (i + 1) (z_px mv (i + 1))) (I1 12 (i + 1) (z_px mv (i + 1))) (if i % 2 = 0 then 1 else 0)
      · rw [if_pos hb]; exact h.putI q.1 _
      · rw [if_neg hb]; exact z_db_Z m (i + 1) h
    · exact h
end DR
section NT3
variable {G : z_G} {F : Nat → Prop} {A : z_TA} {M : z_TM} {w : z_W}
theorem mX6_notes (hM : z_Mo G F A M w) {g mc kn e rr : Nat} {mv : Nat → Nat} {I0 I2 : z_TI} {B0 : z_TB} (hg : g < 60) (h10 : M 10 g = nI mc) (hmc : mc ≤ 12) (hkn : kn = if mc < 6 then mc else 6) (hmv : ∀ i, i < kn → M 12 (12 * g + i) = nI (mv i) ∧ mv i < 4) (hr : M 11 g = nI rr) (hr2 : rr ≤ 2) (hl0 : z_Jl I0 M (fun _ => e))
    (h2 : ∀ n l, 1 ≤ n → n ≤ 6 → l < 4 ^ n → (I2 13 n l ≠ 0 ↔ ((z_ar mv (nI rr) kn I0 B0 0).1 13 n l ≠ 0 ∨ (z_bd (z_ar mv (nI rr) kn I0 B0 0).1 n l ∧ ∀ k, 1 ≤ k → k < n → I2 13 k (l % 4 ^ k) = 0)))) (h01 : ∀ n l, 1 ≤ n → n ≤ 6 → l < 4 ^ n → (I2 13 n l = 0 ∨ I2 13 n l = 1)) (h3 : ∀ f, f ≠ 13 → I2 f = (z_ar mv (nI rr) kn I0 B0 0).1 f) :
    z_M G zX6_notes 3 [.ref (A 22 0 0), .int (nI g)] w 0 0 (fun v w' => v = none ∧ z_fr F w w' ∧ ∃ M', z_Mo G F A M' w' ∧ (∀ f, f ≠ 16 → f ≠ 17 → f ≠ 18 → M' f = M f) ∧ z_Jl I2 M' (fun _ => e + 1)) z_nx := by
  have hk6 : kn ≤ 6 := by rw [hkn]; split <;> omega
  refine z_M.of (by decide +kernel) rfl (by intro v hv; simp only [List.mem_cons, List.not_mem_nil, or_false] at hv; rcases hv with rfl | rfl <;> first | rfl | exact z_isr_cat (z_isr_rf _)) (Nat.le_of_ble_eq_true rfl) ?_
  show z_E _ zX6_notes _ _ 0 [some (.ref (A 22 0 0)), some (.int (nI g)), none, none, none, none, none] [] _ _ _
  have go : z_E G zX6_notes 3 (z_mq G (fun v w' => v = none ∧ z_fr F w w' ∧ ∃ M', z_Mo G F A M' w' ∧ (∀ f, f ≠ 16 → f ≠ 17 → f ≠ 18 → M' f = M f) ∧ z_Jl I2 M' (fun _ => e + 1)) z_nx) 22 [some (.ref (A 22 0 0)), some (.int (nI g)), none, none, none, none, none] [.int (nI kn)] w 0 0 := by
    refine z_istore2 (pc := 22) dX6_notes_22 ?_
    refine z_iconst_1 (pc := 23) dX6_notes_23 ?_
    refine z_istore3 (pc := 24) dX6_notes_24 ?_
    refine iX6_notes1 (w0 := w) (g := g) (kn := kn) (e := e) (rr := rr) (mv := mv) (I1 := (z_ar mv (nI rr) kn I0 B0 0).1) hg hk6 hmv hr hr2 (fun M1 w1 x4 hM1 hf1 hk1 hl1 => ?_) kn 0 rfl (Nat.zero_le _) I0 M w _ hM z_fr.rf (fun _ _ _ => rfl) (fun n l a b c => ?_) (Or.inl ⟨B0, rfl, fun k a b => absurd a (by omega)⟩)
    · refine z_iconst_1 (pc := 91) dX6_notes_91 ?_
      refine z_istore3 (pc := 92) dX6_notes_92 ?_
      refine iX6_notes2 (w0 := w) (M1 := M1) (I1 := (z_ar mv (nI rr) kn I0 B0 0).1) (I2 := I2) hl1 h2 h01 (fun M2 w2 hM2 hf2 hk2 hl2 => ⟨rfl, hf2, M2, hM2, fun f a b c => by rw [hk2 f c]; exact hk1 f a b, fun n l a b c => ?_⟩) 6 1 rfl (by omega) (by omega) M1 w1 _ _ _ hM1 hf1 ⟨fun _ _ => rfl, fun n l a b c => ?_⟩
      · rw [if_neg (by rintro (q | q) <;> omega)]
        exact (hl1 n l a b c).2.2.1
      · have h := hl1 n l a b c
        rw [hl2 n l a b c, hk2 16 (by decide), hk2 17 (by decide), h3 11 (by decide), h3 12 (by decide)]
        exact ⟨h.1, h.2.1, rfl, h01 n l a b c, h.2.2.2.2⟩
    · obtain ⟨a1, a2, a3, a4, c', s, a5, a6, a7, a8⟩ := hl0 n l a b c
      have e9 : (if n ≤ 0 then e + 1 else e) = e := if_neg (by omega)
      exact ⟨a1, a2, a3, a4, c', s, a5, a6, Nat.le_trans a7 (Nat.le_of_eq e9.symm), a8⟩
  refine z_aload_n (pc := 0) dX6_notes_0 rfl (by first | rfl | exact z_isr_rf _) ?_
  refine gfX6_29 (pc := 1) rfl dX6_notes_1 (hM.k22) rfl ?_
  refine z_iload_n (pc := 4) dX6_notes_4 rfl ?_
  refine z_iald (pc := 5) dX6_notes_5 (hM.k10) (vp_in_nI hg (by omega)) ?_
  rw [nI_clamp (show g < 2 ^ 31 by omega), h10]
  refine z_bipush_6 (pc := 6) dX6_notes_6 ?_
  refine z_icmp_ge (pc := 8) (tgt := 20) dX6_notes_8 (by decide) (fun hc => ?_) (fun hc => ?_)
  · have hc := (nI_leI (a := 6) (b := mc) (by omega) (by omega)).1 hc
    have e6 : kn = 6 := by rw [hkn, if_neg (by omega)]
    subst e6
    refine z_bipush_6 (pc := 20) dX6_notes_20 ?_
    exact go
  · have hc : ¬ 6 ≤ mc := fun z => hc ((nI_leI (a := 6) (b := mc) (by omega) (by omega)).2 z)
    have e6 : kn = mc := by rw [hkn, if_pos (by omega)]
    subst e6
    refine z_aload_n (pc := 11) dX6_notes_11 rfl (by first | rfl | exact z_isr_rf _) ?_
    refine gfX6_29 (pc := 12) rfl dX6_notes_12 (hM.k22) rfl ?_
    refine z_iload_n (pc := 15) dX6_notes_15 rfl ?_
    refine z_iald (pc := 16) dX6_notes_16 (hM.k10) (vp_in_nI hg (by omega)) ?_
    rw [nI_clamp (show g < 2 ^ 31 by omega), h10]
    refine z_goto (pc := 17) (tgt := 22) dX6_notes_17 (by decide) ?_
    exact go
end NT3

