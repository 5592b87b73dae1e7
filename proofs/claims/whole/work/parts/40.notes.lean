/-! the reference's notes: the first loop -/
theorem z_Jl.g {I : z_TI} {M : z_TM} {bd : Nat → Nat} (h : z_Jl I M bd) {mv : Nat → Nat} {n : Nat} (hmv : ∀ i, i < n → mv i < 4) (h6 : n ≤ 6) : z_gn M (z_px mv n) n ↔ ∃ k, 1 ≤ k ∧ k ≤ n ∧ I 13 k (z_px mv k) ≠ 0 := by
  have e : ∀ k, 1 ≤ k → k ≤ n → M 18 (z_sh k + z_px mv n % 4 ^ k) = I 13 k (z_px mv k) := fun k a b => by
    rw [z_px_le hmv n b (Nat.le_refl _)]
    exact (h k _ a (by omega) (z_px_lt hmv k b)).2.2.1
  constructor
  · rintro ⟨k, a, b, c⟩
    exact ⟨k, a, b, by rw [← e k a b]; exact c⟩
  · rintro ⟨k, a, b, c⟩
    exact ⟨k, a, b, by rw [e k a b]; exact c⟩
theorem z_Jl.up {I : z_TI} {M : z_TM} {bd bd' : Nat → Nat} (h : z_Jl I M bd) {n l rr : Nat} (h1 : 1 ≤ n) (h6 : n ≤ 6) (hl : l < 4 ^ n) (hr : rr ≤ 2) (hb : ∀ k, bd k ≤ bd' k) (hbn : bd n + 1 ≤ bd' n) : z_Jl (z_sI (z_sI I 11 n l (I 11 n l + 1)) 12 n l (I 12 n l + nI rr)) (z_sM (z_sM M 16 (z_sh n + l) (I 11 n l + 1)) 17 (z_sh n + l) (I 12 n l + nI rr)) bd' := by
  intro n' l' h1' h6' hl'
  have h0 := h n' l' h1' h6' hl'
  have e13 : z_sI (z_sI I 11 n l (I 11 n l + 1)) 12 n l (I 12 n l + nI rr) 13 n' l' = I 13 n' l' := by
    rw [z_sI_f _ _ _ _ (by decide), z_sI_f _ _ _ _ (by decide)]
  have m18 : z_sM (z_sM M 16 (z_sh n + l) (I 11 n l + 1)) 17 (z_sh n + l) (I 12 n l + nI rr) 18 = M 18 := rfl
  have m17 : z_sM (z_sM M 16 (z_sh n + l) (I 11 n l + 1)) 17 (z_sh n + l) (I 12 n l + nI rr) 17 (z_sh n' + l') = upd (M 17) (z_sh n + l) (I 12 n l + nI rr) (z_sh n' + l') := rfl
  have m16 : z_sM (z_sM M 16 (z_sh n + l) (I 11 n l + 1)) 17 (z_sh n + l) (I 12 n l + nI rr) 16 (z_sh n' + l') = upd (M 16) (z_sh n + l) (I 11 n l + 1) (z_sh n' + l') := rfl
  rw [e13, m18, m17, m16]
  have hb2 := hb n'
  obtain ⟨a1, a2, a3, a4, c, s, a5, a6, a7, a8⟩ := h0
  by_cases q : n' = n ∧ l' = l
  · obtain ⟨rfl, rfl⟩ := q
    rw [z_upd_s, z_upd_s, z_sI_s, z_sI_f _ _ _ _ (by decide), z_sI_s]
    refine ⟨rfl, rfl, a3, a4, c + 1, s + rr, ?_, ?_, by omega, by omega⟩
    · rw [a5, nI_1]
    · rw [a6, nI_add]
  · have hne : ¬ z_sh n' + l' = z_sh n + l := fun z => q (z_sh_i h1' h6' hl' h1 h6 hl z)
    rw [z_upd_n _ _ hne, z_upd_n _ _ hne, z_sI_ne _ _ (fun z => q z.2), z_sI_ne _ _ (fun z => q z.2), z_sI_ne _ _ (fun z => q z.2), z_sI_ne _ _ (fun z => q z.2)]
    exact ⟨a1, a2, a3, a4, c, s, a5, a6, by omega, a8⟩
section NT
variable {G : z_G} {F : Nat → Prop} {A : z_TA} {M : z_TM} {w : z_W}
theorem iX6_notes1 {Z : z_Gq} {w0 : z_W} {g kn e rr : Nat} {mv : Nat → Nat} {I1 : z_TI} (hg : g < 60) (h6 : kn ≤ 6) (hmv : ∀ i, i < kn → M 12 (12 * g + i) = nI (mv i) ∧ mv i < 4) (hr : M 11 g = nI rr) (hr2 : rr ≤ 2) (kk : ∀ M' w' x4, z_Mo G F A M' w' → z_fr F w0 w' → (∀ f, f ≠ 16 → f ≠ 17 → M' f = M f) → z_Jl I1 M' (fun _ => e + 1) → z_E G zX6_notes 3 Z 91 [some (.ref (A 22 0 0)), some (.int (nI g)), some (.int (nI kn)), some (.int (nI (kn + 1))), x4, none, none] [] w' 0 0) : ∀ m i : Nat, kn - i = m → i ≤ kn → ∀ (I : z_TI) (M' : z_TM) (w : z_W) x4, z_Mo G F A M' w → z_fr F w0 w → (∀ f, f ≠ 16 → f ≠ 17 → M' f = M f) → z_Jl I M' (fun n => if n ≤ i then e + 1 else e) → ((∃ B, (z_ar mv (nI rr) m I B i).1 = I1 ∧ ∀ k, 1 ≤ k → k ≤ i → I 13 k (z_px mv k) = 0) ∨ (I = I1 ∧ ∃ k, 1 ≤ k ∧ k ≤ i ∧ I 13 k (z_px mv k) ≠ 0)) → z_E G zX6_notes 3 Z 25 [some (.ref (A 22 0 0)), some (.int (nI g)), some (.int (nI kn)), some (.int (nI (i + 1))), x4, none, none] [] w 0 0 := by
  have hmv4 : ∀ i, i < kn → mv i < 4 := fun i hi => (hmv i hi).2
  intro m
  induction m with
  | zero =>
    intro i hm hi I M' w x4 hM hf hk hl hs
    have : i = kn := by omega
    subst this
    refine z_iload_n (pc := 25) dX6_notes_25 rfl ?_
    refine z_iload_n (pc := 26) dX6_notes_26 rfl ?_
    refine z_icmp_gt (pc := 27) (tgt := 91) dX6_notes_27 (by decide) (fun _ => ?_) (fun hn => absurd ((nI_ltI (by omega) (by omega)).2 (by omega)) hn)
    have hI : I = I1 := by
      rcases hs with ⟨B, h, _⟩ | ⟨h, _⟩
      · exact h
      · exact h
    subst hI
    refine kk M' w x4 hM hf hk (fun n l a b c => ?_)
    obtain ⟨a1, a2, a3, a4, c', s, a5, a6, a7, a8⟩ := hl n l a b c
    refine ⟨a1, a2, a3, a4, c', s, a5, a6, ?_, a8⟩
    have : (if n ≤ i then e + 1 else e) ≤ e + 1 := by split <;> omega
    exact Nat.le_trans a7 this
  | succ m ih =>
    intro i hm hi I M' w x4 hM hf hk hl hs
    have hin : i < kn := by omega
    have hm1 : kn - (i + 1) = m := by omega
    have hp := z_px_lt hmv4 (i + 1) hin
    have hp6 := z_p4 (i + 1) (by omega)
    have hsh := z_sh_s (i + 1) (by omega) (by omega)
    have hM12 : M' 12 = M 12 := hk 12 (by decide) (by decide)
    have hM11 : M' 11 = M 11 := hk 11 (by decide) (by decide)
    have hgn := hl.g (mv := mv) (n := i + 1) (fun j hj => hmv4 j (by omega)) (by omega)
    have hln := hl (i + 1) (z_px mv (i + 1)) (by omega) (by omega) hp
    have hmvi : ∀ k, k < i + 1 → M' 12 (12 * g + k) = nI (mv k) ∧ mv k < 4 := fun k hk2 => by
      rw [hM12]
      exact hmv k (by omega)
    refine z_iload_n (pc := 25) dX6_notes_25 rfl ?_
    refine z_iload_n (pc := 26) dX6_notes_26 rfl ?_
    refine z_icmp_gt (pc := 27) (tgt := 91) dX6_notes_27 (by decide) (fun hn => absurd hn (fun z => absurd ((nI_ltI (by omega) (by omega)).1 z) (by omega))) (fun _ => ?_)
    refine z_aload_n (pc := 30) dX6_notes_30 rfl (by first | rfl | exact z_isr_rf _) ?_
    refine z_iload_n (pc := 31) dX6_notes_31 rfl ?_
    refine z_iload_n (pc := 32) dX6_notes_32 rfl ?_
    refine z_callVp (pc := 33) (mX6_lineOf hM (g := g) (n := i + 1) (mv := mv) hg (by omega) hmvi) dX6_notes_33 cwX6_118 okX6_lineOf rfl (hM.k22) rfl rfl (by omega) rfl (Nat.le_of_ble_eq_true rfl) ?_
    refine z_istore4 (pc := 36) dX6_notes_36 ?_
    refine z_aload_n (pc := 38) dX6_notes_38 rfl (by first | rfl | exact z_isr_rf _) ?_
    refine z_iload (pc := 39) dX6_notes_39 rfl ?_
    refine z_iload_n (pc := 41) dX6_notes_41 rfl ?_
    refine z_callVp (pc := 42) (mX6_isGone hM (l := z_px mv (i + 1)) (n := i + 1) (by omega) (by omega)) dX6_notes_42 cwX6_121 okX6_isGone rfl (hM.k22) rfl rfl (by omega) rfl (Nat.le_of_ble_eq_true rfl) ?_
    refine z_if_ne (pc := 45) (tgt := 85) dX6_notes_45 (by decide) (fun hc => ?_) (fun hc => ?_)
    · have hg1 := hgn.1 (z_b_1 hc)
      refine z_iinc3 (pc := 85) dX6_notes_85 ?_
      refine z_goto (pc := 88) (tgt := 25) dX6_notes_88 (by decide) ?_
      rw [nI_1]
      refine ih (i + 1) hm1 hin I M' w _ hM hf hk (fun n l a b c => ?_) (Or.inr ⟨?_, hg1⟩)
      · obtain ⟨a1, a2, a3, a4, c', s, a5, a6, a7, a8⟩ := hl n l a b c
        refine ⟨a1, a2, a3, a4, c', s, a5, a6, ?_, a8⟩
        have : (if n ≤ i then e + 1 else e) ≤ (if n ≤ i + 1 then e + 1 else e) := by
          by_cases q : n ≤ i
          · rw [if_pos q, if_pos (by omega)]; exact Nat.le_refl _
          · rw [if_neg q]; split <;> omega
        exact Nat.le_trans a7 this
      · rcases hs with ⟨B, h, h2⟩ | ⟨h, _⟩
        · rw [z_ar, if_neg] at h
          · exact h
          · obtain ⟨k, a, b, c⟩ := hg1
            by_cases q : k = i + 1
            · rw [← q]; exact c
            · exact absurd (h2 k a (by omega)) c
        · exact h
    · have hg0 := z_b_0 hc
      have hal : ∀ k, 1 ≤ k → k ≤ i + 1 → I 13 k (z_px mv k) = 0 := fun k a b => Classical.not_not.1 (fun c => hg0 (hgn.2 ⟨k, a, b, c⟩))
      obtain ⟨B, h, h2⟩ := hs.resolve_right (fun ⟨_, k, a, b, c⟩ => absurd (hal k a (by omega)) c)
      rw [z_ar, if_pos (hal (i + 1) (by omega) (Nat.le_refl _))] at h
      refine z_aload_n (pc := 48) dX6_notes_48 rfl (by first | rfl | exact z_isr_rf _) ?_
      refine gfX6_44 (pc := 49) rfl dX6_notes_49 (hM.k22) rfl ?_
      refine z_iload_n (pc := 52) dX6_notes_52 rfl ?_
      refine z_callSp (pc := 53) (mX6_shorter (G := G) (n := i + 1) (by omega) (by omega)) dX6_notes_53 cwX6_115 okX6_shorter rfl (by omega) rfl (Nat.le_of_ble_eq_true rfl) ?_
      refine z_iload (pc := 56) dX6_notes_56 rfl ?_
      refine z_iadd (pc := 58) dX6_notes_58 ?_
      rw [nI_add]
      refine z_dup2 (pc := 59) dX6_notes_59 (by first | rfl | exact z_isr_cat (z_isr_rf _)) (by first | rfl | exact z_isr_cat (z_isr_rf _)) ?_
      refine z_iald (pc := 60) dX6_notes_60 (hM.k16) (vp_in_nI (by omega) (by omega)) ?_
      rw [nI_clamp (show z_sh (i + 1) + z_px mv (i + 1) < 2 ^ 31 by omega), hln.1]
      refine z_iconst_1 (pc := 61) dX6_notes_61 ?_
      refine z_iadd (pc := 62) dX6_notes_62 ?_
      refine z_iast (pc := 63) dX6_notes_63 (hM.k16) (vp_in_nI (by omega) (by omega)) ?_
      rw [nI_clamp (show z_sh (i + 1) + z_px mv (i + 1) < 2 ^ 31 by omega)]
      refine z_genM (hM.p16 (z_sh (i + 1) + z_px mv (i + 1)) (I 11 (i + 1) (z_px mv (i + 1)) + 1)) (fun w3 hM3 hf3 => ?_)
      refine z_aload_n (pc := 64) dX6_notes_64 rfl (by first | rfl | exact z_isr_rf _) ?_
      refine gfX6_47 (pc := 65) rfl dX6_notes_65 (hM3.k22) rfl ?_
      refine z_iload_n (pc := 68) dX6_notes_68 rfl ?_
      refine z_callSp (pc := 69) (mX6_shorter (G := G) (n := i + 1) (by omega) (by omega)) dX6_notes_69 cwX6_115 okX6_shorter rfl (by omega) rfl (Nat.le_of_ble_eq_true rfl) ?_
      refine z_iload (pc := 72) dX6_notes_72 rfl ?_
      refine z_iadd (pc := 74) dX6_notes_74 ?_
      rw [nI_add]
      refine z_dup2 (pc := 75) dX6_notes_75 (by first | rfl | exact z_isr_cat (z_isr_rf _)) (by first | rfl | exact z_isr_cat (z_isr_rf _)) ?_
      refine z_iald (pc := 76) dX6_notes_76 (hM3.k17) (vp_in_nI (by omega) (by omega)) ?_
      rw [nI_clamp (show z_sh (i + 1) + z_px mv (i + 1) < 2 ^ 31 by omega), show z_sM M' 16 (z_sh (i + 1) + z_px mv (i + 1)) (I 11 (i + 1) (z_px mv (i + 1)) + 1) 17 (z_sh (i + 1) + z_px mv (i + 1)) = I 12 (i + 1) (z_px mv (i + 1)) from hln.2.1]
      refine z_aload_n (pc := 77) dX6_notes_77 rfl (by first | rfl | exact z_isr_rf _) ?_
      refine gfX6_32 (pc := 78) rfl dX6_notes_78 (hM3.k22) rfl ?_
      refine z_iload_n (pc := 81) dX6_notes_81 rfl ?_
      refine z_iald (pc := 82) dX6_notes_82 (hM3.k11) (vp_in_nI hg (by omega)) ?_
      rw [nI_clamp (show g < 2 ^ 31 by omega), show z_sM M' 16 (z_sh (i + 1) + z_px mv (i + 1)) (I 11 (i + 1) (z_px mv (i + 1)) + 1) 11 g = nI rr from (by rw [← hr, ← hM11]; rfl)]
      refine z_iadd (pc := 83) dX6_notes_83 ?_
      refine z_iast (pc := 84) dX6_notes_84 (hM3.k17) (vp_in_nI (by omega) (by omega)) ?_
      rw [nI_clamp (show z_sh (i + 1) + z_px mv (i + 1) < 2 ^ 31 by omega)]
      refine z_genM (hM3.p17 (z_sh (i + 1) + z_px mv (i + 1)) (I 12 (i + 1) (z_px mv (i + 1)) + nI rr)) (fun w4 hM4 hf4 => ?_)
      refine z_iinc3 (pc := 85) dX6_notes_85 ?_
      refine z_goto (pc := 88) (tgt := 25) dX6_notes_88 (by decide) ?_
      rw [nI_1]
      refine ih (i + 1) hm1 hin _ _ w4 _ hM4 (hf.tr (hf3.tr hf4)) (fun f a b => by rw [z_sM_f _ _ _ b, z_sM_f _ _ _ a]; exact hk f a b) (hl.up (by omega) (by omega) hp hr2 (fun k => ?_) ?_) (Or.inl ⟨_, h, fun k a b => ?_⟩)
      · by_cases q : k ≤ i
        · rw [if_pos q, if_pos (by omega)]; exact Nat.le_refl _
        · rw [if_neg q]; split <;> omega
      · rw [if_neg (by omega), if_pos (Nat.le_refl _)]; exact Nat.le_refl _
      · rw [z_sI_f _ _ _ _ (by decide), z_sI_f _ _ _ _ (by decide)]
        exact hal k a b
end NT

